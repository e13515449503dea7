abbrev cX12_count : ByteArray := prog_14_method_129_code
def yX12_count : MethodName := ⟨RX12, "count", "(I)I"⟩
theorem okX12_count : yok yX12_count 1 := by decide +kernel
theorem dX12_count_0 : decode cX12_count 0 = .ok (.aload_n 0, 1) := by decide +kernel
theorem dX12_count_1 : decode cX12_count 1 = .ok (.iconst 0, 1) := by decide +kernel
theorem dX12_count_2 : decode cX12_count 2 = .ok (.putfield 1, 3) := by decide +kernel
theorem dX12_count_5 : decode cX12_count 5 = .ok (.aload_n 0, 1) := by decide +kernel
theorem dX12_count_6 : decode cX12_count 6 = .ok (.invokevirtual 557, 3) := by decide +kernel
theorem dX12_count_9 : decode cX12_count 9 = .ok (.iload_n 1, 1) := by decide +kernel
theorem dX12_count_10 : decode cX12_count 10 = .ok (.tableswitch 127 0 12 #[66, 71, 76, 81, 87, 92, 97, 81, 102, 107, 112, 117, 122], 66) := by decide +kernel
theorem dX12_count_76 : decode cX12_count 76 = .ok (.aload_n 0, 1) := by decide +kernel
theorem dX12_count_77 : decode cX12_count 77 = .ok (.getfield 342, 3) := by decide +kernel
theorem dX12_count_80 : decode cX12_count 80 = .ok (.ireturn, 1) := by decide +kernel
theorem dX12_count_81 : decode cX12_count 81 = .ok (.aload_n 0, 1) := by decide +kernel
theorem dX12_count_82 : decode cX12_count 82 = .ok (.invokevirtual 429, 3) := by decide +kernel
theorem dX12_count_85 : decode cX12_count 85 = .ok (.ireturn, 1) := by decide +kernel
theorem dX12_count_86 : decode cX12_count 86 = .ok (.aload_n 0, 1) := by decide +kernel
theorem dX12_count_87 : decode cX12_count 87 = .ok (.getfield 423, 3) := by decide +kernel
theorem dX12_count_90 : decode cX12_count 90 = .ok (.ireturn, 1) := by decide +kernel
theorem dX12_count_91 : decode cX12_count 91 = .ok (.aload_n 0, 1) := by decide +kernel
theorem dX12_count_92 : decode cX12_count 92 = .ok (.iload_n 1, 1) := by decide +kernel
theorem dX12_count_93 : decode cX12_count 93 = .ok (.invokevirtual 633, 3) := by decide +kernel
theorem kw_2258 : Cond.code yX12_sightsThat prog_14_method_127_code 4 (some .int) ∈ uu := uu_in (i := 2258) (by decide +kernel) (by decide +kernel)
theorem kw_2255 : Cond.methodLink "LandSurveyModel" 633 yX12_sightsThat ∈ uu := uu_in (i := 2255) (by decide +kernel) (by decide +kernel)
theorem kw_2257 : Cond.instanceMethod yX12_sightsThat ∈ uu := uu_in (i := 2257) (by decide +kernel) (by decide +kernel)
theorem kw_141 : Cond.selects "LandSurveyModel" yX12_sightsThat yX12_sightsThat ∈ uu := uu_in (i := 141) (by decide +kernel) (by decide +kernel)
theorem lk_LandSurveyModel_633 : lkV "LandSurveyModel" 633 yX12_sightsThat cX12_sightsThat 4 (some .int) 1 := ⟨kw_2255, kw_2257, kw_141, kw_152, kw_2258, okX12_sightsThat⟩
theorem dX12_count_96 : decode cX12_count 96 = .ok (.ireturn, 1) := by decide +kernel
theorem dX12_count_97 : decode cX12_count 97 = .ok (.aload_n 0, 1) := by decide +kernel
theorem dX12_count_98 : decode cX12_count 98 = .ok (.invokevirtual 453, 3) := by decide +kernel
theorem dX12_count_101 : decode cX12_count 101 = .ok (.ireturn, 1) := by decide +kernel
theorem dX12_count_102 : decode cX12_count 102 = .ok (.aload_n 0, 1) := by decide +kernel
theorem dX12_count_103 : decode cX12_count 103 = .ok (.getfield 477, 3) := by decide +kernel
theorem dX12_count_106 : decode cX12_count 106 = .ok (.ireturn, 1) := by decide +kernel
theorem dX12_count_107 : decode cX12_count 107 = .ok (.aload_n 0, 1) := by decide +kernel
theorem dX12_count_108 : decode cX12_count 108 = .ok (.getfield 603, 3) := by decide +kernel
theorem dX12_count_111 : decode cX12_count 111 = .ok (.ireturn, 1) := by decide +kernel
theorem dX12_count_112 : decode cX12_count 112 = .ok (.aload_n 0, 1) := by decide +kernel
theorem dX12_count_113 : decode cX12_count 113 = .ok (.getfield 339, 3) := by decide +kernel
theorem dX12_count_116 : decode cX12_count 116 = .ok (.ireturn, 1) := by decide +kernel
theorem dX12_count_117 : decode cX12_count 117 = .ok (.aload_n 0, 1) := by decide +kernel
theorem dX12_count_118 : decode cX12_count 118 = .ok (.getfield 11, 3) := by decide +kernel
theorem dX12_count_121 : decode cX12_count 121 = .ok (.ireturn, 1) := by decide +kernel
theorem dX12_count_122 : decode cX12_count 122 = .ok (.aload_n 0, 1) := by decide +kernel
theorem dX12_count_123 : decode cX12_count 123 = .ok (.invokevirtual 636, 3) := by decide +kernel
theorem kw_2262 : Cond.code yX12_cellsOfOne prog_14_method_128_code 3 (some .int) ∈ uu := uu_in (i := 2262) (by decide +kernel) (by decide +kernel)
theorem kw_2259 : Cond.methodLink "LandSurveyModel" 636 yX12_cellsOfOne ∈ uu := uu_in (i := 2259) (by decide +kernel) (by decide +kernel)
theorem kw_2261 : Cond.instanceMethod yX12_cellsOfOne ∈ uu := uu_in (i := 2261) (by decide +kernel) (by decide +kernel)
theorem kw_142 : Cond.selects "LandSurveyModel" yX12_cellsOfOne yX12_cellsOfOne ∈ uu := uu_in (i := 142) (by decide +kernel) (by decide +kernel)
theorem lk_LandSurveyModel_636 : lkV "LandSurveyModel" 636 yX12_cellsOfOne cX12_cellsOfOne 3 (some .int) 0 := ⟨kw_2259, kw_2261, kw_142, kw_152, kw_2262, okX12_cellsOfOne⟩
theorem dX12_count_126 : decode cX12_count 126 = .ok (.ireturn, 1) := by decide +kernel
theorem dX12_count_127 : decode cX12_count 127 = .ok (.aload_n 0, 1) := by decide +kernel
theorem dX12_count_128 : decode cX12_count 128 = .ok (.invokevirtual 612, 3) := by decide +kernel
theorem dX12_count_131 : decode cX12_count 131 = .ok (.ireturn, 1) := by decide +kernel
theorem dX12_count_132 : decode cX12_count 132 = .ok (.aload_n 0, 1) := by decide +kernel
theorem dX12_count_133 : decode cX12_count 133 = .ok (.getfield 615, 3) := by decide +kernel
theorem dX12_count_136 : decode cX12_count 136 = .ok (.ireturn, 1) := by decide +kernel
theorem dX12_count_137 : decode cX12_count 137 = .ok (.iconst (-1), 1) := by decide +kernel
theorem dX12_count_138 : decode cX12_count 138 = .ok (.ireturn, 1) := by decide +kernel
abbrev cX12_look : ByteArray := prog_14_method_85_code
def yX12_look : MethodName := ⟨RX12, "look", "(II)I"⟩
theorem okX12_look : yok yX12_look 2 := by decide +kernel
theorem dX12_look_0 : decode cX12_look 0 = .ok (.aload_n 0, 1) := by decide +kernel
theorem dX12_look_1 : decode cX12_look 1 = .ok (.iconst 1, 1) := by decide +kernel
theorem dX12_look_2 : decode cX12_look 2 = .ok (.putfield 1, 3) := by decide +kernel
theorem dX12_look_5 : decode cX12_look 5 = .ok (.aload_n 0, 1) := by decide +kernel
theorem dX12_look_6 : decode cX12_look 6 = .ok (.iload_n 1, 1) := by decide +kernel
theorem dX12_look_7 : decode cX12_look 7 = .ok (.invokevirtual 426, 3) := by decide +kernel
theorem dX12_look_10 : decode cX12_look 10 = .ok (.ifCond .eq 13, 3) := by decide +kernel
theorem dX12_look_23 : decode cX12_look 23 = .ok (.iconst 0, 1) := by decide +kernel
theorem dX12_look_24 : decode cX12_look 24 = .ok (.ireturn, 1) := by decide +kernel
theorem dX12_look_13 : decode cX12_look 13 = .ok (.iload_n 2, 1) := by decide +kernel
theorem dX12_look_14 : decode cX12_look 14 = .ok (.iconst 0, 1) := by decide +kernel
theorem dX12_look_15 : decode cX12_look 15 = .ok (.bipush 7, 2) := by decide +kernel
theorem dX12_look_17 : decode cX12_look 17 = .ok (.invokestatic 415, 3) := by decide +kernel
theorem dX12_look_20 : decode cX12_look 20 = .ok (.ifCond .ne 5, 3) := by decide +kernel
theorem dX12_look_25 : decode cX12_look 25 = .ok (.aload_n 0, 1) := by decide +kernel
theorem dX12_look_26 : decode cX12_look 26 = .ok (.invokevirtual 557, 3) := by decide +kernel
theorem dX12_look_29 : decode cX12_look 29 = .ok (.aload_n 0, 1) := by decide +kernel
theorem dX12_look_30 : decode cX12_look 30 = .ok (.iload_n 2, 1) := by decide +kernel
theorem dX12_look_31 : decode cX12_look 31 = .ok (.iconst 5, 1) := by decide +kernel
theorem dX12_look_32 : decode cX12_look 32 = .ok (.if_icmp .lt 16, 3) := by decide +kernel
theorem dX12_look_48 : decode cX12_look 48 = .ok (.iconst 0, 1) := by decide +kernel
theorem dX12_look_49 : decode cX12_look 49 = .ok (.putfield 1, 3) := by decide +kernel
theorem dX12_look_52 : decode cX12_look 52 = .ok (.aload_n 0, 1) := by decide +kernel
theorem dX12_look_53 : decode cX12_look 53 = .ok (.getfield 1, 3) := by decide +kernel
theorem dX12_look_56 : decode cX12_look 56 = .ok (.ifCond .le 5, 3) := by decide +kernel
theorem dX12_look_61 : decode cX12_look 61 = .ok (.iload_n 2, 1) := by decide +kernel
theorem dX12_look_62 : decode cX12_look 62 = .ok (.tableswitch 126 0 6 #[42, 48, 54, 69, 83, 112, 119], 42) := by decide +kernel
theorem dX12_look_104 : decode cX12_look 104 = .ok (.aload_n 0, 1) := by decide +kernel
theorem dX12_look_105 : decode cX12_look 105 = .ok (.iload_n 1, 1) := by decide +kernel
theorem dX12_look_106 : decode cX12_look 106 = .ok (.invokevirtual 450, 3) := by decide +kernel
theorem dX12_look_109 : decode cX12_look 109 = .ok (.ireturn, 1) := by decide +kernel
theorem dX12_look_110 : decode cX12_look 110 = .ok (.aload_n 0, 1) := by decide +kernel
theorem dX12_look_111 : decode cX12_look 111 = .ok (.iload_n 1, 1) := by decide +kernel
theorem dX12_look_112 : decode cX12_look 112 = .ok (.invokevirtual 474, 3) := by decide +kernel
theorem dX12_look_115 : decode cX12_look 115 = .ok (.ireturn, 1) := by decide +kernel
theorem dX12_look_116 : decode cX12_look 116 = .ok (.aload_n 0, 1) := by decide +kernel
theorem dX12_look_117 : decode cX12_look 117 = .ok (.getfield 209, 3) := by decide +kernel
theorem dX12_look_120 : decode cX12_look 120 = .ok (.iload_n 1, 1) := by decide +kernel
theorem dX12_look_121 : decode cX12_look 121 = .ok (.baload, 1) := by decide +kernel
theorem dX12_look_122 : decode cX12_look 122 = .ok (.ifCond .eq 7, 3) := by decide +kernel
theorem dX12_look_129 : decode cX12_look 129 = .ok (.iconst 0, 1) := by decide +kernel
theorem dX12_look_130 : decode cX12_look 130 = .ok (.ireturn, 1) := by decide +kernel
theorem dX12_look_125 : decode cX12_look 125 = .ok (.iconst 1, 1) := by decide +kernel
theorem dX12_look_126 : decode cX12_look 126 = .ok (.goto 4, 3) := by decide +kernel
theorem dX12_look_131 : decode cX12_look 131 = .ok (.aload_n 0, 1) := by decide +kernel
theorem dX12_look_132 : decode cX12_look 132 = .ok (.iload_n 1, 1) := by decide +kernel
theorem dX12_look_133 : decode cX12_look 133 = .ok (.invokevirtual 560, 3) := by decide +kernel
theorem dX12_look_136 : decode cX12_look 136 = .ok (.ifCond .eq 7, 3) := by decide +kernel
theorem dX12_look_143 : decode cX12_look 143 = .ok (.iconst 0, 1) := by decide +kernel
theorem dX12_look_144 : decode cX12_look 144 = .ok (.ireturn, 1) := by decide +kernel
theorem dX12_look_139 : decode cX12_look 139 = .ok (.iconst 1, 1) := by decide +kernel
theorem dX12_look_140 : decode cX12_look 140 = .ok (.goto 4, 3) := by decide +kernel
theorem dX12_look_145 : decode cX12_look 145 = .ok (.aload_n 0, 1) := by decide +kernel
theorem dX12_look_146 : decode cX12_look 146 = .ok (.getfield 537, 3) := by decide +kernel
theorem dX12_look_149 : decode cX12_look 149 = .ok (.ifCond .lt 23, 3) := by decide +kernel
theorem dX12_look_172 : decode cX12_look 172 = .ok (.iconst 0, 1) := by decide +kernel
theorem dX12_look_173 : decode cX12_look 173 = .ok (.ireturn, 1) := by decide +kernel
theorem dX12_look_152 : decode cX12_look 152 = .ok (.aload_n 0, 1) := by decide +kernel
theorem dX12_look_153 : decode cX12_look 153 = .ok (.getfield 257, 3) := by decide +kernel
theorem dX12_look_156 : decode cX12_look 156 = .ok (.aload_n 0, 1) := by decide +kernel
theorem dX12_look_157 : decode cX12_look 157 = .ok (.getfield 537, 3) := by decide +kernel
theorem dX12_look_160 : decode cX12_look 160 = .ok (.laload, 1) := by decide +kernel
theorem dX12_look_161 : decode cX12_look 161 = .ok (.iload_n 1, 1) := by decide +kernel
theorem dX12_look_162 : decode cX12_look 162 = .ok (.invokestatic 487, 3) := by decide +kernel
theorem dX12_look_165 : decode cX12_look 165 = .ok (.ifCond .eq 7, 3) := by decide +kernel
theorem dX12_look_168 : decode cX12_look 168 = .ok (.iconst 1, 1) := by decide +kernel
theorem dX12_look_169 : decode cX12_look 169 = .ok (.goto 4, 3) := by decide +kernel
theorem dX12_look_35 : decode cX12_look 35 = .ok (.aload_n 0, 1) := by decide +kernel
theorem dX12_look_36 : decode cX12_look 36 = .ok (.getfield 209, 3) := by decide +kernel
theorem dX12_look_39 : decode cX12_look 39 = .ok (.iload_n 1, 1) := by decide +kernel
theorem dX12_look_40 : decode cX12_look 40 = .ok (.baload, 1) := by decide +kernel
theorem dX12_look_41 : decode cX12_look 41 = .ok (.ifCond .ne 7, 3) := by decide +kernel
theorem dX12_look_174 : decode cX12_look 174 = .ok (.aload_n 0, 1) := by decide +kernel
theorem dX12_look_175 : decode cX12_look 175 = .ok (.getfield 212, 3) := by decide +kernel
theorem dX12_look_178 : decode cX12_look 178 = .ok (.iload_n 1, 1) := by decide +kernel
theorem dX12_look_179 : decode cX12_look 179 = .ok (.iaload, 1) := by decide +kernel
theorem dX12_look_180 : decode cX12_look 180 = .ok (.ireturn, 1) := by decide +kernel
theorem dX12_look_181 : decode cX12_look 181 = .ok (.aload_n 0, 1) := by decide +kernel
theorem dX12_look_182 : decode cX12_look 182 = .ok (.getfield 215, 3) := by decide +kernel
theorem dX12_look_185 : decode cX12_look 185 = .ok (.iload_n 1, 1) := by decide +kernel
theorem dX12_look_186 : decode cX12_look 186 = .ok (.iaload, 1) := by decide +kernel
theorem dX12_look_187 : decode cX12_look 187 = .ok (.ireturn, 1) := by decide +kernel
theorem dX12_look_188 : decode cX12_look 188 = .ok (.aload_n 0, 1) := by decide +kernel
theorem dX12_look_189 : decode cX12_look 189 = .ok (.iload_n 1, 1) := by decide +kernel
theorem dX12_look_190 : decode cX12_look 190 = .ok (.invokevirtual 444, 3) := by decide +kernel
theorem dX12_look_193 : decode cX12_look 193 = .ok (.ireturn, 1) := by decide +kernel
theorem dX12_look_44 : decode cX12_look 44 = .ok (.iconst 1, 1) := by decide +kernel
theorem dX12_look_45 : decode cX12_look 45 = .ok (.goto 4, 3) := by decide +kernel
theorem dX12_look_59 : decode cX12_look 59 = .ok (.iconst 0, 1) := by decide +kernel
theorem dX12_look_60 : decode cX12_look 60 = .ok (.ireturn, 1) := by decide +kernel
def wr_k_X12_count : List Nat := [2400, 2435, 2462, 2469, 2477, 2478, 26220000, 26420000, 30620200, 30820000, 31020000, 31220000, 32620000, 32820000, 33020000, 33220000, 33420000, 33620000, 34020200, 34220000, 34420400, 34620200, 34820200, 35020000, 35220000]
set_option maxRecDepth 100000 in
set_option maxHeartbeats 4000000 in
theorem k_X12_count (l : Launch) (D : va_G) (cy : Nat → ClassId) (w : Nat → Nat) (z0 : Nat)  {h : Hp} {a0 : Nat} {a1 : Int}  (O : Okh h) (ta0 : Tg h a0 = 12) (fa1 : (-2147483648) ≤ a1 ∧ a1 ≤ 2147483647) (P_MInv : MInv h a0) : MI l D cy w z0 yX12_count cX12_count 2 (some .int) 11 278 0 0 [.inr (.inr a0), .inl a1] h (fun v h1 => Okh h1 ∧ Fx wr_k_X12_count h h1 ∧ ((-2147483648) ≤ v ∧ v ≤ 2147483647)) := by
  refine hm_go (by decide +kernel) (Nat.le_of_ble_eq_true rfl) (fun p e s m below meth c C hr hn => ?_)
  refine g_aload_n C rfl 0 rfl dX12_count_0 ?_
  refine g_iconst C dX12_count_1 ?_
  refine gp_I C fk_LandSurveyModel_1 pk_LandSurveyModel_0 rfl ta0 (iw (il 0) (by decide) (by decide)) (nf_i _) dX12_count_2 (fun h2 hh1 => ?_)
  have O3 := O.pI ta0 hh1 rI_12_0 (iw (il 0) (by decide) (by decide)) nofun
  refine g_aload_n C rfl 0 rfl dX12_count_5 ?_
  have e4 : Tg h2 a0 = 12 := ((pIT hh1).trans ta0)
  have p5 := (MInv_fx O ((Fx.rf (wr := [2400]) (h := h)).pI ta0 hh1 rfl) ta0 rfl P_MInv)
  refine g_callV (st := []) (gc_V C lk_LandSurveyModel_557 (k_X12_findGrounds l D cy w z0 O3 e4 p5) e4 rfl rfl rfl ⟨by decide, by decide⟩ (Nat.le_of_ble_eq_true rfl) dX12_count_6 ⟨(by decide), (by decide)⟩) (fun h7 K8 => ?_)
  obtain ⟨O10, F11⟩ := K8
  refine g_iload_n C rfl 1 rfl dX12_count_9 ?_
  rcases Classical.em (a1 = 0) with q12 | q13
  · refine g_tin (kv := 0) C q12 (by decide) 76 (by decide) (by decide) rfl (by decide) dX12_count_10 ?_
    have f14 : (0 : Int) ≤ a1 ∧ a1 ≤ (0 : Int) := ii fa1 (r_eq (il 0) q12) (by decide) (by decide)
    refine g_aload_n C rfl 0 rfl dX12_count_76 ?_
    have e15 : Tg h7 a0 = 12 := (fxT F11 e4)
    obtain ⟨v16, e17⟩ : ∃ z, Iv h7 a0 33 = z := ⟨_, rfl⟩
    have f18 := ok_I O10 e15 rI_12_33 e17
    refine gf_I C fk_LandSurveyModel_342 rfl e15 e17 dX12_count_77 ?_
    exact g_iret C hr rfl (iw f18 (by decide) (by decide)) ⟨O10, (((Fx.rf (wr := wr_k_X12_count)).pI ta0 hh1 rfl).call F11 rfl), (iw f18 (by decide) (by decide))⟩ (by decide) (by decide) dX12_count_80
  · rcases Classical.em (a1 = 1) with q19 | q20
    · refine g_tin (kv := 1) C q19 (by decide) 81 (by decide) (by decide) rfl (by decide) dX12_count_10 ?_
      have f21 : (1 : Int) ≤ a1 ∧ a1 ≤ (1 : Int) := ii fa1 (r_eq (il 1) q19) (by decide) (by decide)
      refine g_aload_n C rfl 0 rfl dX12_count_81 ?_
      have e22 : Tg h7 a0 = 12 := (fxT F11 e4)
      refine g_callI (st := []) (gc_V C lk_LandSurveyModel_429 (k_X12_viewDay l D cy w z0 O10 e22) e22 rfl rfl rfl ⟨by decide, by decide⟩ (Nat.le_of_ble_eq_true rfl) dX12_count_82 ⟨(by decide), (by decide)⟩) (fun r23 h24 f26 K25 => ?_)
      obtain ⟨O27, F28, f29, p30⟩ := K25
      obtain ⟨v31, e32⟩ : ∃ z, Iv h7 a0 34 = z := ⟨_, rfl⟩
      have f33 := ok_I O10 e22 rI_12_34 e32
      obtain ⟨v34, e35⟩ : ∃ z, Iv h7 a0 33 = z := ⟨_, rfl⟩
      have f36 := ok_I O10 e22 rI_12_33 e35
      rw [e32, e35] at p30
      exact g_iret C hr rfl (iw f29 (by decide) (by decide)) ⟨O27, ((((Fx.rf (wr := wr_k_X12_count)).pI ta0 hh1 rfl).call F11 rfl).call F28 rfl), (iw f29 (by decide) (by decide))⟩ (by decide) (by decide) dX12_count_85
    · rcases Classical.em (a1 = 2) with q37 | q38
      · refine g_tin (kv := 2) C q37 (by decide) 86 (by decide) (by decide) rfl (by decide) dX12_count_10 ?_
        have f39 : (2 : Int) ≤ a1 ∧ a1 ≤ (2 : Int) := ii fa1 (r_eq (il 2) q37) (by decide) (by decide)
        refine g_aload_n C rfl 0 rfl dX12_count_86 ?_
        have e40 : Tg h7 a0 = 12 := (fxT F11 e4)
        obtain ⟨v41, e42⟩ : ∃ z, Iv h7 a0 40 = z := ⟨_, rfl⟩
        have f43 := ok_I O10 e40 rI_12_40 e42
        refine gf_I C fk_LandSurveyModel_423 rfl e40 e42 dX12_count_87 ?_
        exact g_iret C hr rfl (iw f43 (by decide) (by decide)) ⟨O10, (((Fx.rf (wr := wr_k_X12_count)).pI ta0 hh1 rfl).call F11 rfl), (iw f43 (by decide) (by decide))⟩ (by decide) (by decide) dX12_count_90
      · rcases Classical.em (a1 = 3) with q44 | q45
        · refine g_tin (kv := 3) C q44 (by decide) 91 (by decide) (by decide) rfl (by decide) dX12_count_10 ?_
          have f46 : (3 : Int) ≤ a1 ∧ a1 ≤ (3 : Int) := ii fa1 (r_eq (il 3) q44) (by decide) (by decide)
          refine g_aload_n C rfl 0 rfl dX12_count_91 ?_
          refine g_iload_n C rfl 1 rfl dX12_count_92 ?_
          have e47 : Tg h7 a0 = 12 := (fxT F11 e4)
          have p48 := (MInv_fx O3 F11 e4 rfl p5)
          refine g_callI (st := []) (gc_V C lk_LandSurveyModel_633 (k_X12_sightsThat l D cy w z0 O10 e47 (iw f46 (by decide) (by decide)) p48) e47 rfl rfl rfl ⟨by decide, by decide⟩ (Nat.le_of_ble_eq_true rfl) dX12_count_93 ⟨(by decide), (by decide)⟩) (fun r49 h50 f52 K51 => ?_)
          obtain ⟨O53, F54, f55⟩ := K51
          exact g_iret C hr rfl f55 ⟨O53, ((((Fx.rf (wr := wr_k_X12_count)).pI ta0 hh1 rfl).call F11 rfl).call F54 rfl), f55⟩ (by decide) (by decide) dX12_count_96
        · rcases Classical.em (a1 = 4) with q56 | q57
          · refine g_tin (kv := 4) C q56 (by decide) 97 (by decide) (by decide) rfl (by decide) dX12_count_10 ?_
            have f58 : (4 : Int) ≤ a1 ∧ a1 ≤ (4 : Int) := ii fa1 (r_eq (il 4) q56) (by decide) (by decide)
            refine g_aload_n C rfl 0 rfl dX12_count_97 ?_
            have e59 : Tg h7 a0 = 12 := (fxT F11 e4)
            refine g_callI (st := []) (gc_V C lk_LandSurveyModel_453 (k_X12_rocksNow l D cy w z0 O10 e59) e59 rfl rfl rfl ⟨by decide, by decide⟩ (Nat.le_of_ble_eq_true rfl) dX12_count_98 ⟨(by decide), (by decide)⟩) (fun r60 h61 f63 K62 => ?_)
            obtain ⟨O64, F65, f66, p67⟩ := K62
            obtain ⟨v68, e69⟩ : ∃ z, BNow h7 a0 = z := ⟨_, rfl⟩
            have f70 : (-1 : Int) ≤ v68 ∧ v68 ≤ (7 : Int) := BNow_rng O10 e59 e69
            rw [e69] at p67
            exact g_iret C hr rfl (iw f66 (by decide) (by decide)) ⟨O64, ((((Fx.rf (wr := wr_k_X12_count)).pI ta0 hh1 rfl).call F11 rfl).call F65 rfl), (iw f66 (by decide) (by decide))⟩ (by decide) (by decide) dX12_count_101
          · rcases Classical.em (a1 = 5) with q71 | q72
            · refine g_tin (kv := 5) C q71 (by decide) 102 (by decide) (by decide) rfl (by decide) dX12_count_10 ?_
              have f73 : (5 : Int) ≤ a1 ∧ a1 ≤ (5 : Int) := ii fa1 (r_eq (il 5) q71) (by decide) (by decide)
              refine g_aload_n C rfl 0 rfl dX12_count_102 ?_
              have e74 : Tg h7 a0 = 12 := (fxT F11 e4)
              obtain ⟨v75, e76⟩ : ∃ z, Iv h7 a0 57 = z := ⟨_, rfl⟩
              have f77 := ok_I O10 e74 rI_12_57 e76
              refine gf_I C fk_LandSurveyModel_477 rfl e74 e76 dX12_count_103 ?_
              exact g_iret C hr rfl (iw f77 (by decide) (by decide)) ⟨O10, (((Fx.rf (wr := wr_k_X12_count)).pI ta0 hh1 rfl).call F11 rfl), (iw f77 (by decide) (by decide))⟩ (by decide) (by decide) dX12_count_106
            · rcases Classical.em (a1 = 6) with q78 | q79
              · refine g_tin (kv := 6) C q78 (by decide) 107 (by decide) (by decide) rfl (by decide) dX12_count_10 ?_
                have f80 : (6 : Int) ≤ a1 ∧ a1 ≤ (6 : Int) := ii fa1 (r_eq (il 6) q78) (by decide) (by decide)
                refine g_aload_n C rfl 0 rfl dX12_count_107 ?_
                have e81 : Tg h7 a0 = 12 := (fxT F11 e4)
                obtain ⟨v82, e83⟩ : ∃ z, Iv h7 a0 80 = z := ⟨_, rfl⟩
                have f84 := ok_I O10 e81 rI_12_80 e83
                refine gf_I C fk_LandSurveyModel_603 rfl e81 e83 dX12_count_108 ?_
                exact g_iret C hr rfl (iw f84 (by decide) (by decide)) ⟨O10, (((Fx.rf (wr := wr_k_X12_count)).pI ta0 hh1 rfl).call F11 rfl), (iw f84 (by decide) (by decide))⟩ (by decide) (by decide) dX12_count_111
              · rcases Classical.em (a1 = 7) with q85 | q86
                · refine g_tin (kv := 7) C q85 (by decide) 91 (by decide) (by decide) rfl (by decide) dX12_count_10 ?_
                  have f87 : (7 : Int) ≤ a1 ∧ a1 ≤ (7 : Int) := ii fa1 (r_eq (il 7) q85) (by decide) (by decide)
                  refine g_aload_n C rfl 0 rfl dX12_count_91 ?_
                  refine g_iload_n C rfl 1 rfl dX12_count_92 ?_
                  have e88 : Tg h7 a0 = 12 := (fxT F11 e4)
                  have p89 := (MInv_fx O3 F11 e4 rfl p5)
                  refine g_callI (st := []) (gc_V C lk_LandSurveyModel_633 (k_X12_sightsThat l D cy w z0 O10 e88 (iw f87 (by decide) (by decide)) p89) e88 rfl rfl rfl ⟨by decide, by decide⟩ (Nat.le_of_ble_eq_true rfl) dX12_count_93 ⟨(by decide), (by decide)⟩) (fun r90 h91 f93 K92 => ?_)
                  obtain ⟨O94, F95, f96⟩ := K92
                  exact g_iret C hr rfl f96 ⟨O94, ((((Fx.rf (wr := wr_k_X12_count)).pI ta0 hh1 rfl).call F11 rfl).call F95 rfl), f96⟩ (by decide) (by decide) dX12_count_96
                · rcases Classical.em (a1 = 8) with q97 | q98
                  · refine g_tin (kv := 8) C q97 (by decide) 112 (by decide) (by decide) rfl (by decide) dX12_count_10 ?_
                    have f99 : (8 : Int) ≤ a1 ∧ a1 ≤ (8 : Int) := ii fa1 (r_eq (il 8) q97) (by decide) (by decide)
                    refine g_aload_n C rfl 0 rfl dX12_count_112 ?_
                    have e100 : Tg h7 a0 = 12 := (fxT F11 e4)
                    obtain ⟨v101, e102⟩ : ∃ z, Iv h7 a0 10 = z := ⟨_, rfl⟩
                    have f103 := ok_I O10 e100 rI_12_10 e102
                    refine gf_I C fk_LandSurveyModel_339 rfl e100 e102 dX12_count_113 ?_
                    exact g_iret C hr rfl (iw f103 (by decide) (by decide)) ⟨O10, (((Fx.rf (wr := wr_k_X12_count)).pI ta0 hh1 rfl).call F11 rfl), (iw f103 (by decide) (by decide))⟩ (by decide) (by decide) dX12_count_116
                  · rcases Classical.em (a1 = 9) with q104 | q105
                    · refine g_tin (kv := 9) C q104 (by decide) 117 (by decide) (by decide) rfl (by decide) dX12_count_10 ?_
                      have f106 : (9 : Int) ≤ a1 ∧ a1 ≤ (9 : Int) := ii fa1 (r_eq (il 9) q104) (by decide) (by decide)
                      refine g_aload_n C rfl 0 rfl dX12_count_117 ?_
                      have e107 : Tg h7 a0 = 12 := (fxT F11 e4)
                      obtain ⟨v108, e109⟩ : ∃ z, Iv h7 a0 2 = z := ⟨_, rfl⟩
                      have f110 := ok_I O10 e107 rI_12_2 e109
                      refine gf_I C fk_LandSurveyModel_11 rfl e107 e109 dX12_count_118 ?_
                      exact g_iret C hr rfl (iw f110 (by decide) (by decide)) ⟨O10, (((Fx.rf (wr := wr_k_X12_count)).pI ta0 hh1 rfl).call F11 rfl), (iw f110 (by decide) (by decide))⟩ (by decide) (by decide) dX12_count_121
                    · rcases Classical.em (a1 = 10) with q111 | q112
                      · refine g_tin (kv := 10) C q111 (by decide) 122 (by decide) (by decide) rfl (by decide) dX12_count_10 ?_
                        have f113 : (10 : Int) ≤ a1 ∧ a1 ≤ (10 : Int) := ii fa1 (r_eq (il 10) q111) (by decide) (by decide)
                        refine g_aload_n C rfl 0 rfl dX12_count_122 ?_
                        have e114 : Tg h7 a0 = 12 := (fxT F11 e4)
                        have p115 := (MInv_fx O3 F11 e4 rfl p5)
                        refine g_callI (st := []) (gc_V C lk_LandSurveyModel_636 (k_X12_cellsOfOne l D cy w z0 O10 e114 p115) e114 rfl rfl rfl ⟨by decide, by decide⟩ (Nat.le_of_ble_eq_true rfl) dX12_count_123 ⟨(by decide), (by decide)⟩) (fun r116 h117 f119 K118 => ?_)
                        obtain ⟨O120, F121, f122⟩ := K118
                        exact g_iret C hr rfl f122 ⟨O120, ((((Fx.rf (wr := wr_k_X12_count)).pI ta0 hh1 rfl).call F11 rfl).call F121 rfl), f122⟩ (by decide) (by decide) dX12_count_126
                      · rcases Classical.em (a1 = 11) with q123 | q124
                        · refine g_tin (kv := 11) C q123 (by decide) 127 (by decide) (by decide) rfl (by decide) dX12_count_10 ?_
                          have f125 : (11 : Int) ≤ a1 ∧ a1 ≤ (11 : Int) := ii fa1 (r_eq (il 11) q123) (by decide) (by decide)
                          refine g_aload_n C rfl 0 rfl dX12_count_127 ?_
                          have e126 : Tg h7 a0 = 12 := (fxT F11 e4)
                          refine g_callI (st := []) (gc_V C lk_LandSurveyModel_612 (k_X12_asked l D cy w z0 O10 e126) e126 rfl rfl rfl ⟨by decide, by decide⟩ (Nat.le_of_ble_eq_true rfl) dX12_count_128 ⟨(by decide), (by decide)⟩) (fun r127 h128 f130 K129 => ?_)
                          obtain ⟨O131, F132, f133⟩ := K129
                          exact g_iret C hr rfl f133 ⟨O131, ((((Fx.rf (wr := wr_k_X12_count)).pI ta0 hh1 rfl).call F11 rfl).call F132 rfl), f133⟩ (by decide) (by decide) dX12_count_131
                        · rcases Classical.em (a1 = 12) with q134 | q135
                          · refine g_tin (kv := 12) C q134 (by decide) 132 (by decide) (by decide) rfl (by decide) dX12_count_10 ?_
                            have f136 : (12 : Int) ≤ a1 ∧ a1 ≤ (12 : Int) := ii fa1 (r_eq (il 12) q134) (by decide) (by decide)
                            refine g_aload_n C rfl 0 rfl dX12_count_132 ?_
                            have e137 : Tg h7 a0 = 12 := (fxT F11 e4)
                            obtain ⟨v138, e139⟩ : ∃ z, Iv h7 a0 83 = z := ⟨_, rfl⟩
                            have f140 := ok_I O10 e137 rI_12_83 e139
                            refine gf_I C fk_LandSurveyModel_615 rfl e137 e139 dX12_count_133 ?_
                            exact g_iret C hr rfl (iw f140 (by decide) (by decide)) ⟨O10, (((Fx.rf (wr := wr_k_X12_count)).pI ta0 hh1 rfl).call F11 rfl), (iw f140 (by decide) (by decide))⟩ (by decide) (by decide) dX12_count_136
                          · refine g_tout C fa1 137 (by omega) (by decide) dX12_count_10 ?_
                            refine g_iconst C dX12_count_137 ?_
                            exact g_iret C hr rfl (iw (il (-1)) (by decide) (by decide)) ⟨O10, (((Fx.rf (wr := wr_k_X12_count)).pI ta0 hh1 rfl).call F11 rfl), (iw (il (-1)) (by decide) (by decide))⟩ (by decide) (by decide) dX12_count_138
def wr_k_X12_look : List Nat := [2400, 2435, 2462, 2469, 2477, 2478, 26220000, 26420000, 30620200, 30820000, 31020000, 31220000, 32620000, 32820000, 33020000, 33220000, 33420000, 33620000, 34020200, 34220000, 34420400, 34620200, 34820200, 35020000, 35220000]
set_option maxRecDepth 100000 in
set_option maxHeartbeats 4000000 in
theorem k_X12_look (l : Launch) (D : va_G) (cy : Nat → ClassId) (w : Nat → Nat) (z0 : Nat)  {h : Hp} {a0 : Nat} {a1 : Int} {a2 : Int}  (O : Okh h) (ta0 : Tg h a0 = 12) (fa1 : (-2147483648) ≤ a1 ∧ a1 ≤ 2147483647) (fa2 : (-2147483648) ≤ a2 ∧ a2 ≤ 2147483647) (P_MInv : MInv h a0) : MI l D cy w z0 yX12_look cX12_look 3 (some .int) 11 278 0 0 [.inr (.inr a0), .inl a1, .inl a2] h (fun v h1 => Okh h1 ∧ Fx wr_k_X12_look h h1 ∧ ((-2147483648) ≤ v ∧ v ≤ 2147483647)) := by
  refine hm_go (by decide +kernel) (Nat.le_of_ble_eq_true rfl) (fun p e s m below meth c C hr hn => ?_)
  refine g_aload_n C rfl 0 rfl dX12_look_0 ?_
  refine g_iconst C dX12_look_1 ?_
  refine gp_I C fk_LandSurveyModel_1 pk_LandSurveyModel_0 rfl ta0 (iw (il 1) (by decide) (by decide)) (nf_i _) dX12_look_2 (fun h2 hh1 => ?_)
  have O3 := O.pI ta0 hh1 rI_12_0 (iw (il 1) (by decide) (by decide)) nofun
  refine g_aload_n C rfl 0 rfl dX12_look_5 ?_
  refine g_iload_n C rfl 1 rfl dX12_look_6 ?_
  have e4 : Tg h2 a0 = 12 := ((pIT hh1).trans ta0)
  refine g_callI (st := []) (gc_V C lk_LandSurveyModel_426 (k_X12_isSight l D cy w z0 O3 e4 fa1) e4 rfl rfl rfl ⟨by decide, by decide⟩ (Nat.le_of_ble_eq_true rfl) dX12_look_7 ⟨(by decide), (by decide)⟩) (fun r5 h6 f8 K7 => ?_)
  obtain ⟨O9, F10, f11, p12⟩ := K7
  refine g_if_eq C (iw f11 (by decide) (by decide)) 23 (by decide) dX12_look_10 (fun q13 => ?_) (fun q14 => ?_)
  · have f15 : (0 : Int) ≤ r5 ∧ r5 ≤ (0 : Int) := ii f11 (r_eq (il 0) q13) (by decide) (by decide)
    refine g_iconst C dX12_look_23 ?_
    exact g_iret C hr rfl (iw (il 0) (by decide) (by decide)) ⟨O9, (((Fx.rf (wr := wr_k_X12_look)).pI ta0 hh1 rfl).call F10 rfl), (iw (il 0) (by decide) (by decide))⟩ (by decide) (by decide) dX12_look_24
  · have f16 : (1 : Int) ≤ r5 ∧ r5 ≤ (1 : Int) := r_nl f11 q14
    have f17 : (0 : Int) ≤ a1 ∧ a1 ≤ (39 : Int) := by omega
    refine g_iload_n C rfl 2 rfl dX12_look_13 ?_
    refine g_iconst C dX12_look_14 ?_
    refine g_bipush C (by decide) dX12_look_15 ?_
    refine g_callI (st := []) (gc_S C lk_LandSurveyModel_415 (k_X12_within l D cy w z0 O9 fa2 (iw (il 0) (by decide) (by decide)) (iw (il 7) (by decide) (by decide))) rfl ⟨by decide, by decide⟩ (Nat.le_of_ble_eq_true rfl) dX12_look_17 ⟨(by decide), (by decide)⟩) (fun r18 h19 f21 K20 => ?_)
    obtain ⟨O22, F23, f24, p25⟩ := K20
    refine g_if_ne C (iw f24 (by decide) (by decide)) 25 (by decide) dX12_look_20 (fun q26 => ?_) (fun q27 => ?_)
    · have f28 : (1 : Int) ≤ r18 ∧ r18 ≤ (1 : Int) := r_nl f24 q26
      have f29 : (0 : Int) ≤ a2 ∧ a2 ≤ (7 : Int) := by omega
      refine g_aload_n C rfl 0 rfl dX12_look_25 ?_
      have e30 : Tg h19 a0 = 12 := (fxT F23 (fxT F10 e4))
      have e31 : Tg h6 a0 = 12 := (fxT F10 e4)
      have p32 := (MInv_fx O9 F23 e31 rfl (MInv_fx O3 F10 e4 rfl (MInv_fx O ((Fx.rf (wr := [2400]) (h := h)).pI ta0 hh1 rfl) ta0 rfl P_MInv)))
      refine g_callV (st := []) (gc_V C lk_LandSurveyModel_557 (k_X12_findGrounds l D cy w z0 O22 e30 p32) e30 rfl rfl rfl ⟨by decide, by decide⟩ (Nat.le_of_ble_eq_true rfl) dX12_look_26 ⟨(by decide), (by decide)⟩) (fun h34 K35 => ?_)
      obtain ⟨O37, F38⟩ := K35
      refine g_aload_n C rfl 0 rfl dX12_look_29 ?_
      refine g_iload_n C rfl 2 rfl dX12_look_30 ?_
      refine g_iconst C dX12_look_31 ?_
      refine g_icmp_lt C (iw f29 (by decide) (by decide)) (iw (il 5) (by decide) (by decide)) 48 (by decide) dX12_look_32 (fun q39 => ?_) (fun q40 => ?_)
      · have f41 : (0 : Int) ≤ a2 ∧ a2 ≤ (4 : Int) := r_lt f29 (il 5) q39 (by decide) (by decide)
        refine g_iconst C dX12_look_48 ?_
        have e42 : Tg h34 a0 = 12 := (fxT F38 e30)
        refine gp_I C fk_LandSurveyModel_1 pk_LandSurveyModel_0 rfl e42 (iw (il 0) (by decide) (by decide)) (nf_i _) dX12_look_49 (fun h44 hh43 => ?_)
        have O45 := O37.pI e42 hh43 rI_12_0 (iw (il 0) (by decide) (by decide)) nofun
        refine g_aload_n C rfl 0 rfl dX12_look_52 ?_
        have e46 : Tg h44 a0 = 12 := ((pIT hh43).trans e42)
        refine gf_I C fk_LandSurveyModel_1 rfl e46 (pI_e hh43) dX12_look_53 ?_
        refine g_if_le C (iw (il 0) (by decide) (by decide)) 61 (by decide) dX12_look_56 (fun q47 => ?_) (fun q48 => ?_)
        · refine g_iload_n C rfl 2 rfl dX12_look_61 ?_
          rcases Classical.em (a2 = 0) with q49 | q50
          · refine g_tin (kv := 0) C q49 (by decide) 104 (by decide) (by decide) rfl (by decide) dX12_look_62 ?_
            have f51 : (0 : Int) ≤ a2 ∧ a2 ≤ (0 : Int) := ii f41 (r_eq (il 0) q49) (by decide) (by decide)
            refine g_aload_n C rfl 0 rfl dX12_look_104 ?_
            refine g_iload_n C rfl 1 rfl dX12_look_105 ?_
            have p52 := (MInv_fx O37 ((Fx.rf (wr := [2400]) (h := h34)).pI e42 hh43 rfl) e42 rfl (MInv_fx O22 F38 e30 rfl p32))
            refine g_callI (st := []) (gc_V C lk_LandSurveyModel_450 (k_X12_rockOf l D cy w z0 O45 e46 f17 p52) e46 rfl rfl rfl ⟨by decide, by decide⟩ (Nat.le_of_ble_eq_true rfl) dX12_look_106 ⟨(by decide), (by decide)⟩) (fun r53 h54 f56 K55 => ?_)
            obtain ⟨O57, F58, f59, p60, p61⟩ := K55
            obtain ⟨v62, e63⟩ : ∃ z, RK h44 a0 a1 = z := ⟨_, rfl⟩
            rw [e63] at p60
            obtain ⟨v64, e65⟩ : ∃ z, BNow h44 a0 = z := ⟨_, rfl⟩
            have f66 : (-1 : Int) ≤ v64 ∧ v64 ≤ (7 : Int) := BNow_rng O45 e46 e65
            rw [e65] at p61
            exact g_iret C hr rfl (iw f59 (by decide) (by decide)) ⟨O57, (((((((Fx.rf (wr := wr_k_X12_look)).pI ta0 hh1 rfl).call F10 rfl).call F23 rfl).call F38 rfl).pI e42 hh43 rfl).call F58 rfl), (iw f59 (by decide) (by decide))⟩ (by decide) (by decide) dX12_look_109
          · rcases Classical.em (a2 = 1) with q67 | q68
            · refine g_tin (kv := 1) C q67 (by decide) 110 (by decide) (by decide) rfl (by decide) dX12_look_62 ?_
              have f69 : (1 : Int) ≤ a2 ∧ a2 ≤ (1 : Int) := ii f41 (r_eq (il 1) q67) (by decide) (by decide)
              refine g_aload_n C rfl 0 rfl dX12_look_110 ?_
              refine g_iload_n C rfl 1 rfl dX12_look_111 ?_
              have p70 := (MInv_fx O37 ((Fx.rf (wr := [2400]) (h := h34)).pI e42 hh43 rfl) e42 rfl (MInv_fx O22 F38 e30 rfl p32))
              refine g_callI (st := []) (gc_V C lk_LandSurveyModel_474 (k_X12_worthOf l D cy w z0 O45 e46 f17 p70) e46 rfl rfl rfl ⟨by decide, by decide⟩ (Nat.le_of_ble_eq_true rfl) dX12_look_112 ⟨(by decide), (by decide)⟩) (fun r71 h72 f74 K73 => ?_)
              obtain ⟨O75, F76, f77⟩ := K73
              exact g_iret C hr rfl (iw f77 (by decide) (by decide)) ⟨O75, (((((((Fx.rf (wr := wr_k_X12_look)).pI ta0 hh1 rfl).call F10 rfl).call F23 rfl).call F38 rfl).pI e42 hh43 rfl).call F76 rfl), (iw f77 (by decide) (by decide))⟩ (by decide) (by decide) dX12_look_115
            · rcases Classical.em (a2 = 2) with q78 | q79
              · refine g_tin (kv := 2) C q78 (by decide) 116 (by decide) (by decide) rfl (by decide) dX12_look_62 ?_
                have f80 : (2 : Int) ≤ a2 ∧ a2 ≤ (2 : Int) := ii f41 (r_eq (il 2) q78) (by decide) (by decide)
                refine g_aload_n C rfl 0 rfl dX12_look_116 ?_
                obtain ⟨v81, e82⟩ : ∃ z, Rv h44 a0 53 = z := ⟨_, rfl⟩
                have t83 := ok_R O45 e46 rE_12_53 e82
                have l84 := ok_L O45 e46 rE_12_53 e82
                refine gf_R C fk_LandSurveyModel_209 rfl e46 e82 dX12_look_117 ?_
                refine g_iload_n C rfl 1 rfl dX12_look_120 ?_
                obtain ⟨v85, e86⟩ : ∃ z, Iv h44 v81 a1.toNat = z := ⟨_, rfl⟩
                have f87 := ok_Ia O45 t83 ar_153101 rI_153101_0 e86
                refine g_zald C t83 rfl l84 (ix f17 (by decide) (by decide)) e86 dX12_look_121 ?_
                refine g_if_eq C (iw f87 (by decide) (by decide)) 129 (by decide) dX12_look_122 (fun q88 => ?_) (fun q89 => ?_)
                · have f90 : (0 : Int) ≤ v85 ∧ v85 ≤ (0 : Int) := ii f87 (r_eq (il 0) q88) (by decide) (by decide)
                  refine g_iconst C dX12_look_129 ?_
                  exact g_iret C hr rfl (iw (il 0) (by decide) (by decide)) ⟨O45, ((((((Fx.rf (wr := wr_k_X12_look)).pI ta0 hh1 rfl).call F10 rfl).call F23 rfl).call F38 rfl).pI e42 hh43 rfl), (iw (il 0) (by decide) (by decide))⟩ (by decide) (by decide) dX12_look_130
                · have f91 : (1 : Int) ≤ v85 ∧ v85 ≤ (1 : Int) := r_nl f87 q89
                  refine g_iconst C dX12_look_125 ?_
                  refine g_goto C 130 (by decide) dX12_look_126 ?_
                  exact g_iret C hr rfl (iw (il 1) (by decide) (by decide)) ⟨O45, ((((((Fx.rf (wr := wr_k_X12_look)).pI ta0 hh1 rfl).call F10 rfl).call F23 rfl).call F38 rfl).pI e42 hh43 rfl), (iw (il 1) (by decide) (by decide))⟩ (by decide) (by decide) dX12_look_130
              · rcases Classical.em (a2 = 3) with q92 | q93
                · refine g_tin (kv := 3) C q92 (by decide) 131 (by decide) (by decide) rfl (by decide) dX12_look_62 ?_
                  have f94 : (3 : Int) ≤ a2 ∧ a2 ≤ (3 : Int) := ii f41 (r_eq (il 3) q92) (by decide) (by decide)
                  refine g_aload_n C rfl 0 rfl dX12_look_131 ?_
                  refine g_iload_n C rfl 1 rfl dX12_look_132 ?_
                  have p95 := (MInv_fx O37 ((Fx.rf (wr := [2400]) (h := h34)).pI e42 hh43 rfl) e42 rfl (MInv_fx O22 F38 e30 rfl p32))
                  refine g_callI (st := []) (gc_V C lk_LandSurveyModel_560 (k_X12_quarrels l D cy w z0 O45 e46 f17 p95) e46 rfl rfl rfl ⟨by decide, by decide⟩ (Nat.le_of_ble_eq_true rfl) dX12_look_133 ⟨(by decide), (by decide)⟩) (fun r96 h97 f99 K98 => ?_)
                  obtain ⟨O100, F101, f102⟩ := K98
                  refine g_if_eq C (iw f102 (by decide) (by decide)) 143 (by decide) dX12_look_136 (fun q103 => ?_) (fun q104 => ?_)
                  · have f105 : (0 : Int) ≤ r96 ∧ r96 ≤ (0 : Int) := ii f102 (r_eq (il 0) q103) (by decide) (by decide)
                    refine g_iconst C dX12_look_143 ?_
                    exact g_iret C hr rfl (iw (il 0) (by decide) (by decide)) ⟨O100, (((((((Fx.rf (wr := wr_k_X12_look)).pI ta0 hh1 rfl).call F10 rfl).call F23 rfl).call F38 rfl).pI e42 hh43 rfl).call F101 rfl), (iw (il 0) (by decide) (by decide))⟩ (by decide) (by decide) dX12_look_144
                  · have f106 : (1 : Int) ≤ r96 ∧ r96 ≤ (1 : Int) := r_nl f102 q104
                    refine g_iconst C dX12_look_139 ?_
                    refine g_goto C 144 (by decide) dX12_look_140 ?_
                    exact g_iret C hr rfl (iw (il 1) (by decide) (by decide)) ⟨O100, (((((((Fx.rf (wr := wr_k_X12_look)).pI ta0 hh1 rfl).call F10 rfl).call F23 rfl).call F38 rfl).pI e42 hh43 rfl).call F101 rfl), (iw (il 1) (by decide) (by decide))⟩ (by decide) (by decide) dX12_look_144
                · rcases Classical.em (a2 = 4) with q107 | q108
                  · refine g_tin (kv := 4) C q107 (by decide) 145 (by decide) (by decide) rfl (by decide) dX12_look_62 ?_
                    have f109 : (4 : Int) ≤ a2 ∧ a2 ≤ (4 : Int) := ii f41 (r_eq (il 4) q107) (by decide) (by decide)
                    refine g_aload_n C rfl 0 rfl dX12_look_145 ?_
                    obtain ⟨v110, e111⟩ : ∃ z, Iv h44 a0 77 = z := ⟨_, rfl⟩
                    have f112 := ok_I O45 e46 rI_12_77 e111
                    refine gf_I C fk_LandSurveyModel_537 rfl e46 e111 dX12_look_146 ?_
                    refine g_if_lt C (iw f112 (by decide) (by decide)) 172 (by decide) dX12_look_149 (fun q113 => ?_) (fun q114 => ?_)
                    · have f115 : (-1 : Int) ≤ v110 ∧ v110 ≤ (-1 : Int) := r_lt f112 (il 0) q113 (by decide) (by decide)
                      refine g_iconst C dX12_look_172 ?_
                      exact g_iret C hr rfl (iw (il 0) (by decide) (by decide)) ⟨O45, ((((((Fx.rf (wr := wr_k_X12_look)).pI ta0 hh1 rfl).call F10 rfl).call F23 rfl).call F38 rfl).pI e42 hh43 rfl), (iw (il 0) (by decide) (by decide))⟩ (by decide) (by decide) dX12_look_173
                    · have f116 : (0 : Int) ≤ v110 ∧ v110 ≤ (15 : Int) := r_ge f112 (il 0) q114 (by decide) (by decide)
                      refine g_aload_n C rfl 0 rfl dX12_look_152 ?_
                      obtain ⟨v117, e118⟩ : ∃ z, Rv h44 a0 72 = z := ⟨_, rfl⟩
                      have t119 := ok_R O45 e46 rE_12_72 e118
                      have l120 := ok_L O45 e46 rE_12_72 e118
                      refine gf_R C fk_LandSurveyModel_257 rfl e46 e118 dX12_look_153 ?_
                      refine g_aload_n C rfl 0 rfl dX12_look_156 ?_
                      refine gf_I C fk_LandSurveyModel_537 rfl e46 e111 dX12_look_157 ?_
                      obtain ⟨v121, e122⟩ : ∃ z, Jv h44 v117 v110.toNat = z := ⟨_, rfl⟩
                      have f123 := inL_J O45 e122
                      refine g_lald C t119 rfl l120 (ix f116 (by decide) (by decide)) e122 dX12_look_160 ?_
                      refine g_iload_n C rfl 1 rfl dX12_look_161 ?_
                      refine g_callI (st := []) (gc_S C lk_LandSurveyModel_487 (k_X12_isIn l D cy w z0 O45 f123 (iw f17 (by decide) (by decide))) rfl ⟨by decide, by decide⟩ (Nat.le_of_ble_eq_true rfl) dX12_look_162 ⟨(by decide), (by decide)⟩) (fun r124 h125 f127 K126 => ?_)
                      obtain ⟨O128, F129, f130⟩ := K126
                      refine g_if_eq C (iw f130 (by decide) (by decide)) 172 (by decide) dX12_look_165 (fun q131 => ?_) (fun q132 => ?_)
                      · have f133 : (0 : Int) ≤ r124 ∧ r124 ≤ (0 : Int) := ii f130 (r_eq (il 0) q131) (by decide) (by decide)
                        refine g_iconst C dX12_look_172 ?_
                        exact g_iret C hr rfl (iw (il 0) (by decide) (by decide)) ⟨O128, (((((((Fx.rf (wr := wr_k_X12_look)).pI ta0 hh1 rfl).call F10 rfl).call F23 rfl).call F38 rfl).pI e42 hh43 rfl).call F129 rfl), (iw (il 0) (by decide) (by decide))⟩ (by decide) (by decide) dX12_look_173
                      · have f134 : (1 : Int) ≤ r124 ∧ r124 ≤ (1 : Int) := r_nl f130 q132
                        refine g_iconst C dX12_look_168 ?_
                        refine g_goto C 173 (by decide) dX12_look_169 ?_
                        exact g_iret C hr rfl (iw (il 1) (by decide) (by decide)) ⟨O128, (((((((Fx.rf (wr := wr_k_X12_look)).pI ta0 hh1 rfl).call F10 rfl).call F23 rfl).call F38 rfl).pI e42 hh43 rfl).call F129 rfl), (iw (il 1) (by decide) (by decide))⟩ (by decide) (by decide) dX12_look_173
                  · omega
        · exact (no_lt (il 0) (il 0) q48 (by decide)).elim
      · have f135 : (5 : Int) ≤ a2 ∧ a2 ≤ (7 : Int) := r_ge f29 (il 5) q40 (by decide) (by decide)
        refine g_aload_n C rfl 0 rfl dX12_look_35 ?_
        have e136 : Tg h34 a0 = 12 := (fxT F38 e30)
        obtain ⟨v137, e138⟩ : ∃ z, Rv h34 a0 53 = z := ⟨_, rfl⟩
        have t139 := ok_R O37 e136 rE_12_53 e138
        have l140 := ok_L O37 e136 rE_12_53 e138
        refine gf_R C fk_LandSurveyModel_209 rfl e136 e138 dX12_look_36 ?_
        refine g_iload_n C rfl 1 rfl dX12_look_39 ?_
        obtain ⟨v141, e142⟩ : ∃ z, Iv h34 v137 a1.toNat = z := ⟨_, rfl⟩
        have f143 := ok_Ia O37 t139 ar_153101 rI_153101_0 e142
        refine g_zald C t139 rfl l140 (ix f17 (by decide) (by decide)) e142 dX12_look_40 ?_
        refine g_if_ne C (iw f143 (by decide) (by decide)) 48 (by decide) dX12_look_41 (fun q144 => ?_) (fun q145 => ?_)
        · have f146 : (1 : Int) ≤ v141 ∧ v141 ≤ (1 : Int) := r_nl f143 q144
          refine g_iconst C dX12_look_48 ?_
          refine gp_I C fk_LandSurveyModel_1 pk_LandSurveyModel_0 rfl e136 (iw (il 0) (by decide) (by decide)) (nf_i _) dX12_look_49 (fun h148 hh147 => ?_)
          have O149 := O37.pI e136 hh147 rI_12_0 (iw (il 0) (by decide) (by decide)) nofun
          refine g_aload_n C rfl 0 rfl dX12_look_52 ?_
          have e150 : Tg h148 a0 = 12 := ((pIT hh147).trans e136)
          refine gf_I C fk_LandSurveyModel_1 rfl e150 (pI_e hh147) dX12_look_53 ?_
          refine g_if_le C (iw (il 0) (by decide) (by decide)) 61 (by decide) dX12_look_56 (fun q151 => ?_) (fun q152 => ?_)
          · refine g_iload_n C rfl 2 rfl dX12_look_61 ?_
            rcases Classical.em (a2 = 5) with q153 | q154
            · refine g_tin (kv := 5) C q153 (by decide) 174 (by decide) (by decide) rfl (by decide) dX12_look_62 ?_
              have f155 : (5 : Int) ≤ a2 ∧ a2 ≤ (5 : Int) := ii f135 (r_eq (il 5) q153) (by decide) (by decide)
              refine g_aload_n C rfl 0 rfl dX12_look_174 ?_
              obtain ⟨v156, e157⟩ : ∃ z, Rv h148 a0 54 = z := ⟨_, rfl⟩
              have t158 := ok_R O149 e150 rE_12_54 e157
              have l159 := ok_L O149 e150 rE_12_54 e157
              refine gf_R C fk_LandSurveyModel_212 rfl e150 e157 dX12_look_175 ?_
              refine g_iload_n C rfl 1 rfl dX12_look_178 ?_
              obtain ⟨v160, e161⟩ : ∃ z, Iv h148 v156 a1.toNat = z := ⟨_, rfl⟩
              have f162 := ok_Ia O149 t158 ar_154100 rI_154100_0 e161
              refine g_iald C t158 rfl l159 (ix f17 (by decide) (by decide)) e161 dX12_look_179 ?_
              exact g_iret C hr rfl (iw f162 (by decide) (by decide)) ⟨O149, ((((((Fx.rf (wr := wr_k_X12_look)).pI ta0 hh1 rfl).call F10 rfl).call F23 rfl).call F38 rfl).pI e136 hh147 rfl), (iw f162 (by decide) (by decide))⟩ (by decide) (by decide) dX12_look_180
            · rcases Classical.em (a2 = 6) with q163 | q164
              · refine g_tin (kv := 6) C q163 (by decide) 181 (by decide) (by decide) rfl (by decide) dX12_look_62 ?_
                have f165 : (6 : Int) ≤ a2 ∧ a2 ≤ (6 : Int) := ii f135 (r_eq (il 6) q163) (by decide) (by decide)
                refine g_aload_n C rfl 0 rfl dX12_look_181 ?_
                obtain ⟨v166, e167⟩ : ∃ z, Rv h148 a0 55 = z := ⟨_, rfl⟩
                have t168 := ok_R O149 e150 rE_12_55 e167
                have l169 := ok_L O149 e150 rE_12_55 e167
                refine gf_R C fk_LandSurveyModel_215 rfl e150 e167 dX12_look_182 ?_
                refine g_iload_n C rfl 1 rfl dX12_look_185 ?_
                obtain ⟨v170, e171⟩ : ∃ z, Iv h148 v166 a1.toNat = z := ⟨_, rfl⟩
                have f172 := ok_Ia O149 t168 ar_155100 rI_155100_0 e171
                refine g_iald C t168 rfl l169 (ix f17 (by decide) (by decide)) e171 dX12_look_186 ?_
                exact g_iret C hr rfl (iw f172 (by decide) (by decide)) ⟨O149, ((((((Fx.rf (wr := wr_k_X12_look)).pI ta0 hh1 rfl).call F10 rfl).call F23 rfl).call F38 rfl).pI e136 hh147 rfl), (iw f172 (by decide) (by decide))⟩ (by decide) (by decide) dX12_look_187
              · refine g_tout C (iw f135 (by decide) (by decide)) 188 (by omega) (by decide) dX12_look_62 ?_
                refine g_aload_n C rfl 0 rfl dX12_look_188 ?_
                refine g_iload_n C rfl 1 rfl dX12_look_189 ?_
                have p173 := (MInv_fx O37 ((Fx.rf (wr := [2400]) (h := h34)).pI e136 hh147 rfl) e136 rfl (MInv_fx O22 F38 e30 rfl p32))
                refine g_callI (st := []) (gc_V C lk_LandSurveyModel_444 (k_X12_namedBy l D cy w z0 O149 e150 f17 p173) e150 rfl rfl rfl ⟨by decide, by decide⟩ (Nat.le_of_ble_eq_true rfl) dX12_look_190 ⟨(by decide), (by decide)⟩) (fun r174 h175 f177 K176 => ?_)
                obtain ⟨O178, F179, f180, p181⟩ := K176
                obtain ⟨v182, e183⟩ : ∃ z, BNow h148 a0 = z := ⟨_, rfl⟩
                have f184 : (-1 : Int) ≤ v182 ∧ v182 ≤ (7 : Int) := BNow_rng O149 e150 e183
                have z185 := LO_spec (kind := 1) O149 e150 (Eq.symm p181)
                rw [e183] at z185
                exact g_iret C hr rfl (iw f180 (by decide) (by decide)) ⟨O178, (((((((Fx.rf (wr := wr_k_X12_look)).pI ta0 hh1 rfl).call F10 rfl).call F23 rfl).call F38 rfl).pI e136 hh147 rfl).call F179 rfl), (iw f180 (by decide) (by decide))⟩ (by decide) (by decide) dX12_look_193
          · exact (no_lt (il 0) (il 0) q152 (by decide)).elim
        · have f186 : (0 : Int) ≤ v141 ∧ v141 ≤ (0 : Int) := ii f143 (r_eq (il 0) q145) (by decide) (by decide)
          refine g_iconst C dX12_look_44 ?_
          refine g_goto C 49 (by decide) dX12_look_45 ?_
          refine gp_I C fk_LandSurveyModel_1 pk_LandSurveyModel_0 rfl e136 (iw (il 1) (by decide) (by decide)) (nf_i _) dX12_look_49 (fun h188 hh187 => ?_)
          have O189 := O37.pI e136 hh187 rI_12_0 (iw (il 1) (by decide) (by decide)) nofun
          refine g_aload_n C rfl 0 rfl dX12_look_52 ?_
          have e190 : Tg h188 a0 = 12 := ((pIT hh187).trans e136)
          refine gf_I C fk_LandSurveyModel_1 rfl e190 (pI_e hh187) dX12_look_53 ?_
          refine g_if_le C (iw (il 1) (by decide) (by decide)) 61 (by decide) dX12_look_56 (fun q191 => ?_) (fun q192 => ?_)
          · exact (no_le (il 1) (il 0) q191 (by decide)).elim
          · refine g_iconst C dX12_look_59 ?_
            exact g_iret C hr rfl (iw (il 0) (by decide) (by decide)) ⟨O189, ((((((Fx.rf (wr := wr_k_X12_look)).pI ta0 hh1 rfl).call F10 rfl).call F23 rfl).call F38 rfl).pI e136 hh187 rfl), (iw (il 0) (by decide) (by decide))⟩ (by decide) (by decide) dX12_look_60
    · have f193 : (0 : Int) ≤ r18 ∧ r18 ≤ (0 : Int) := ii f24 (r_eq (il 0) q27) (by decide) (by decide)
      refine g_iconst C dX12_look_23 ?_
      exact g_iret C hr rfl (iw (il 0) (by decide) (by decide)) ⟨O22, ((((Fx.rf (wr := wr_k_X12_look)).pI ta0 hh1 rfl).call F10 rfl).call F23 rfl), (iw (il 0) (by decide) (by decide))⟩ (by decide) (by decide) dX12_look_24
