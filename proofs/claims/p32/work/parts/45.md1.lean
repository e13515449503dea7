abbrev cX12_readNext : ByteArray := prog_14_method_25_code
def yX12_readNext : MethodName := ⟨RX12, "readNext", "()V"⟩
theorem okX12_readNext : yok yX12_readNext 0 := by decide +kernel
theorem dX12_readNext_184 : decode cX12_readNext 184 = .ok (.aload_n 0, 1) := by decide +kernel
theorem dX12_readNext_185 : decode cX12_readNext 185 = .ok (.bipush 59, 2) := by decide +kernel
theorem dX12_readNext_187 : decode cX12_readNext 187 = .ok (.invokevirtual 380, 3) := by decide +kernel
theorem dX12_readNext_190 : decode cX12_readNext 190 = .ok (.return_, 1) := by decide +kernel
theorem dX12_readNext_0 : decode cX12_readNext 0 = .ok (.aload_n 0, 1) := by decide +kernel
theorem dX12_readNext_1 : decode cX12_readNext 1 = .ok (.iconst 0, 1) := by decide +kernel
theorem dX12_readNext_2 : decode cX12_readNext 2 = .ok (.invokevirtual 330, 3) := by decide +kernel
theorem dX12_readNext_5 : decode cX12_readNext 5 = .ok (.ifCond .eq 10, 3) := by decide +kernel
theorem dX12_readNext_15 : decode cX12_readNext 15 = .ok (.aload_n 0, 1) := by decide +kernel
theorem dX12_readNext_16 : decode cX12_readNext 16 = .ok (.iconst 1, 1) := by decide +kernel
theorem dX12_readNext_17 : decode cX12_readNext 17 = .ok (.invokevirtual 330, 3) := by decide +kernel
theorem dX12_readNext_20 : decode cX12_readNext 20 = .ok (.ifCond .ne 19, 3) := by decide +kernel
theorem dX12_readNext_39 : decode cX12_readNext 39 = .ok (.aload_n 0, 1) := by decide +kernel
theorem dX12_readNext_40 : decode cX12_readNext 40 = .ok (.invokevirtual 368, 3) := by decide +kernel
theorem kw_1834 : Cond.code yX12_readLine prog_14_method_29_code 2 none ∈ uu := uu_in (i := 1834) (by decide +kernel) (by decide +kernel)
theorem kw_1831 : Cond.methodLink "LandSurveyModel" 368 yX12_readLine ∈ uu := uu_in (i := 1831) (by decide +kernel) (by decide +kernel)
theorem kw_1833 : Cond.instanceMethod yX12_readLine ∈ uu := uu_in (i := 1833) (by decide +kernel) (by decide +kernel)
theorem kw_75 : Cond.selects "LandSurveyModel" yX12_readLine yX12_readLine ∈ uu := uu_in (i := 75) (by decide +kernel) (by decide +kernel)
theorem lk_LandSurveyModel_368 : lkV "LandSurveyModel" 368 yX12_readLine cX12_readLine 2 none 0 := ⟨kw_1831, kw_1833, kw_75, kw_152, kw_1834, okX12_readLine⟩
theorem dX12_readNext_43 : decode cX12_readNext 43 = .ok (.goto 141, 3) := by decide +kernel
theorem dX12_readNext_23 : decode cX12_readNext 23 = .ok (.aload_n 0, 1) := by decide +kernel
theorem dX12_readNext_24 : decode cX12_readNext 24 = .ok (.iconst 2, 1) := by decide +kernel
theorem dX12_readNext_25 : decode cX12_readNext 25 = .ok (.invokevirtual 330, 3) := by decide +kernel
theorem dX12_readNext_28 : decode cX12_readNext 28 = .ok (.ifCond .ne 11, 3) := by decide +kernel
theorem dX12_readNext_31 : decode cX12_readNext 31 = .ok (.aload_n 0, 1) := by decide +kernel
theorem dX12_readNext_32 : decode cX12_readNext 32 = .ok (.iconst 3, 1) := by decide +kernel
theorem dX12_readNext_33 : decode cX12_readNext 33 = .ok (.invokevirtual 330, 3) := by decide +kernel
theorem dX12_readNext_36 : decode cX12_readNext 36 = .ok (.ifCond .eq 10, 3) := by decide +kernel
theorem dX12_readNext_46 : decode cX12_readNext 46 = .ok (.aload_n 0, 1) := by decide +kernel
theorem dX12_readNext_47 : decode cX12_readNext 47 = .ok (.iconst 4, 1) := by decide +kernel
theorem dX12_readNext_48 : decode cX12_readNext 48 = .ok (.invokevirtual 330, 3) := by decide +kernel
theorem dX12_readNext_51 : decode cX12_readNext 51 = .ok (.ifCond .ne 11, 3) := by decide +kernel
theorem dX12_readNext_62 : decode cX12_readNext 62 = .ok (.aload_n 0, 1) := by decide +kernel
theorem dX12_readNext_63 : decode cX12_readNext 63 = .ok (.invokevirtual 371, 3) := by decide +kernel
theorem kw_1874 : Cond.code yX12_readBound prog_14_method_27_code 3 none ∈ uu := uu_in (i := 1874) (by decide +kernel) (by decide +kernel)
theorem kw_1871 : Cond.methodLink "LandSurveyModel" 371 yX12_readBound ∈ uu := uu_in (i := 1871) (by decide +kernel) (by decide +kernel)
theorem kw_1873 : Cond.instanceMethod yX12_readBound ∈ uu := uu_in (i := 1873) (by decide +kernel) (by decide +kernel)
theorem kw_85 : Cond.selects "LandSurveyModel" yX12_readBound yX12_readBound ∈ uu := uu_in (i := 85) (by decide +kernel) (by decide +kernel)
theorem lk_LandSurveyModel_371 : lkV "LandSurveyModel" 371 yX12_readBound cX12_readBound 3 none 0 := ⟨kw_1871, kw_1873, kw_85, kw_152, kw_1874, okX12_readBound⟩
theorem dX12_readNext_66 : decode cX12_readNext 66 = .ok (.goto 118, 3) := by decide +kernel
theorem dX12_readNext_54 : decode cX12_readNext 54 = .ok (.aload_n 0, 1) := by decide +kernel
theorem dX12_readNext_55 : decode cX12_readNext 55 = .ok (.iconst 5, 1) := by decide +kernel
theorem dX12_readNext_56 : decode cX12_readNext 56 = .ok (.invokevirtual 330, 3) := by decide +kernel
theorem dX12_readNext_59 : decode cX12_readNext 59 = .ok (.ifCond .eq 10, 3) := by decide +kernel
theorem dX12_readNext_69 : decode cX12_readNext 69 = .ok (.aload_n 0, 1) := by decide +kernel
theorem dX12_readNext_70 : decode cX12_readNext 70 = .ok (.bipush 6, 2) := by decide +kernel
theorem dX12_readNext_72 : decode cX12_readNext 72 = .ok (.invokevirtual 330, 3) := by decide +kernel
theorem dX12_readNext_75 : decode cX12_readNext 75 = .ok (.ifCond .ne 12, 3) := by decide +kernel
theorem dX12_readNext_87 : decode cX12_readNext 87 = .ok (.aload_n 0, 1) := by decide +kernel
theorem dX12_readNext_88 : decode cX12_readNext 88 = .ok (.bipush 7, 2) := by decide +kernel
theorem dX12_readNext_90 : decode cX12_readNext 90 = .ok (.invokevirtual 330, 3) := by decide +kernel
theorem dX12_readNext_93 : decode cX12_readNext 93 = .ok (.istore_n 1, 1) := by decide +kernel
theorem dX12_readNext_94 : decode cX12_readNext 94 = .ok (.aload_n 0, 1) := by decide +kernel
theorem dX12_readNext_95 : decode cX12_readNext 95 = .ok (.dup, 1) := by decide +kernel
theorem dX12_readNext_96 : decode cX12_readNext 96 = .ok (.getfield 317, 3) := by decide +kernel
theorem dX12_readNext_99 : decode cX12_readNext 99 = .ok (.iconst 1, 1) := by decide +kernel
theorem dX12_readNext_100 : decode cX12_readNext 100 = .ok (.iadd, 1) := by decide +kernel
theorem dX12_readNext_101 : decode cX12_readNext 101 = .ok (.putfield 317, 3) := by decide +kernel
theorem dX12_readNext_104 : decode cX12_readNext 104 = .ok (.bipush 80, 2) := by decide +kernel
theorem dX12_readNext_106 : decode cX12_readNext 106 = .ok (.aload_n 0, 1) := by decide +kernel
theorem dX12_readNext_107 : decode cX12_readNext 107 = .ok (.invokevirtual 374, 3) := by decide +kernel
theorem dX12_readNext_110 : decode cX12_readNext 110 = .ok (.iadd, 1) := by decide +kernel
theorem dX12_readNext_111 : decode cX12_readNext 111 = .ok (.istore_n 2, 1) := by decide +kernel
theorem dX12_readNext_112 : decode cX12_readNext 112 = .ok (.aload_n 0, 1) := by decide +kernel
theorem dX12_readNext_113 : decode cX12_readNext 113 = .ok (.getfield 116, 3) := by decide +kernel
theorem kw_1523 : Cond.fieldLink "LandSurveyModel" 116 "LandSurveyModel" "isTight" "[Z" ∈ uu := uu_in (i := 1523) (by decide +kernel) (by decide +kernel)
theorem fk_LandSurveyModel_116 : fkR "LandSurveyModel" 116 11 17 RX12 TX12 87 := ⟨rfl, rfl, inX12, by decide, kw_1523, by decide⟩
theorem dX12_readNext_116 : decode cX12_readNext 116 = .ok (.iload_n 2, 1) := by decide +kernel
theorem dX12_readNext_117 : decode cX12_readNext 117 = .ok (.aload_n 0, 1) := by decide +kernel
theorem dX12_readNext_118 : decode cX12_readNext 118 = .ok (.getfield 116, 3) := by decide +kernel
theorem dX12_readNext_121 : decode cX12_readNext 121 = .ok (.iload_n 2, 1) := by decide +kernel
theorem dX12_readNext_122 : decode cX12_readNext 122 = .ok (.baload, 1) := by decide +kernel
theorem dX12_readNext_123 : decode cX12_readNext 123 = .ok (.ifCond .ne 7, 3) := by decide +kernel
theorem dX12_readNext_130 : decode cX12_readNext 130 = .ok (.iconst 1, 1) := by decide +kernel
theorem dX12_readNext_131 : decode cX12_readNext 131 = .ok (.goto 4, 3) := by decide +kernel
theorem dX12_readNext_135 : decode cX12_readNext 135 = .ok (.bastore, 1) := by decide +kernel
theorem dX12_readNext_136 : decode cX12_readNext 136 = .ok (.aload_n 0, 1) := by decide +kernel
theorem dX12_readNext_137 : decode cX12_readNext 137 = .ok (.getfield 112, 3) := by decide +kernel
theorem kw_1522 : Cond.fieldLink "LandSurveyModel" 112 "LandSurveyModel" "isHolding" "[Z" ∈ uu := uu_in (i := 1522) (by decide +kernel) (by decide +kernel)
theorem fk_LandSurveyModel_112 : fkR "LandSurveyModel" 112 11 16 RX12 TX12 87 := ⟨rfl, rfl, inX12, by decide, kw_1522, by decide⟩
theorem dX12_readNext_140 : decode cX12_readNext 140 = .ok (.iload_n 2, 1) := by decide +kernel
theorem dX12_readNext_141 : decode cX12_readNext 141 = .ok (.aload_n 0, 1) := by decide +kernel
theorem dX12_readNext_142 : decode cX12_readNext 142 = .ok (.getfield 112, 3) := by decide +kernel
theorem dX12_readNext_145 : decode cX12_readNext 145 = .ok (.iload_n 2, 1) := by decide +kernel
theorem dX12_readNext_146 : decode cX12_readNext 146 = .ok (.baload, 1) := by decide +kernel
theorem dX12_readNext_147 : decode cX12_readNext 147 = .ok (.ifCond .ne 7, 3) := by decide +kernel
theorem dX12_readNext_154 : decode cX12_readNext 154 = .ok (.iconst 1, 1) := by decide +kernel
theorem dX12_readNext_155 : decode cX12_readNext 155 = .ok (.goto 4, 3) := by decide +kernel
theorem dX12_readNext_159 : decode cX12_readNext 159 = .ok (.bastore, 1) := by decide +kernel
theorem dX12_readNext_160 : decode cX12_readNext 160 = .ok (.goto 24, 3) := by decide +kernel
theorem dX12_readNext_150 : decode cX12_readNext 150 = .ok (.iload_n 1, 1) := by decide +kernel
theorem dX12_readNext_151 : decode cX12_readNext 151 = .ok (.ifCond .ne 7, 3) := by decide +kernel
theorem dX12_readNext_158 : decode cX12_readNext 158 = .ok (.iconst 0, 1) := by decide +kernel
theorem dX12_readNext_126 : decode cX12_readNext 126 = .ok (.iload_n 1, 1) := by decide +kernel
theorem dX12_readNext_127 : decode cX12_readNext 127 = .ok (.ifCond .eq 7, 3) := by decide +kernel
theorem dX12_readNext_134 : decode cX12_readNext 134 = .ok (.iconst 0, 1) := by decide +kernel
theorem dX12_readNext_78 : decode cX12_readNext 78 = .ok (.aload_n 0, 1) := by decide +kernel
theorem dX12_readNext_79 : decode cX12_readNext 79 = .ok (.bipush 7, 2) := by decide +kernel
theorem dX12_readNext_81 : decode cX12_readNext 81 = .ok (.invokevirtual 330, 3) := by decide +kernel
theorem dX12_readNext_84 : decode cX12_readNext 84 = .ok (.ifCond .eq 79, 3) := by decide +kernel
theorem dX12_readNext_163 : decode cX12_readNext 163 = .ok (.aload_n 0, 1) := by decide +kernel
theorem dX12_readNext_164 : decode cX12_readNext 164 = .ok (.bipush 8, 2) := by decide +kernel
theorem dX12_readNext_166 : decode cX12_readNext 166 = .ok (.invokevirtual 330, 3) := by decide +kernel
theorem dX12_readNext_169 : decode cX12_readNext 169 = .ok (.ifCond .eq 10, 3) := by decide +kernel
theorem dX12_readNext_179 : decode cX12_readNext 179 = .ok (.aload_n 0, 1) := by decide +kernel
theorem dX12_readNext_180 : decode cX12_readNext 180 = .ok (.iconst 1, 1) := by decide +kernel
theorem dX12_readNext_181 : decode cX12_readNext 181 = .ok (.invokevirtual 326, 3) := by decide +kernel
theorem dX12_readNext_172 : decode cX12_readNext 172 = .ok (.aload_n 0, 1) := by decide +kernel
theorem dX12_readNext_173 : decode cX12_readNext 173 = .ok (.invokevirtual 377, 3) := by decide +kernel
theorem kw_1878 : Cond.code yX12_readRemain prog_14_method_28_code 5 none ∈ uu := uu_in (i := 1878) (by decide +kernel) (by decide +kernel)
theorem kw_1875 : Cond.methodLink "LandSurveyModel" 377 yX12_readRemain ∈ uu := uu_in (i := 1875) (by decide +kernel) (by decide +kernel)
theorem kw_1877 : Cond.instanceMethod yX12_readRemain ∈ uu := uu_in (i := 1877) (by decide +kernel) (by decide +kernel)
theorem kw_86 : Cond.selects "LandSurveyModel" yX12_readRemain yX12_readRemain ∈ uu := uu_in (i := 86) (by decide +kernel) (by decide +kernel)
theorem lk_LandSurveyModel_377 : lkV "LandSurveyModel" 377 yX12_readRemain cX12_readRemain 5 none 0 := ⟨kw_1875, kw_1877, kw_86, kw_152, kw_1878, okX12_readRemain⟩
theorem dX12_readNext_176 : decode cX12_readNext 176 = .ok (.goto 8, 3) := by decide +kernel
theorem dX12_readNext_8 : decode cX12_readNext 8 = .ok (.aload_n 0, 1) := by decide +kernel
theorem dX12_readNext_9 : decode cX12_readNext 9 = .ok (.invokevirtual 365, 3) := by decide +kernel
theorem kw_1806 : Cond.code yX12_readRock prog_14_method_26_code 2 none ∈ uu := uu_in (i := 1806) (by decide +kernel) (by decide +kernel)
theorem kw_1803 : Cond.methodLink "LandSurveyModel" 365 yX12_readRock ∈ uu := uu_in (i := 1803) (by decide +kernel) (by decide +kernel)
theorem kw_1805 : Cond.instanceMethod yX12_readRock ∈ uu := uu_in (i := 1805) (by decide +kernel) (by decide +kernel)
theorem kw_68 : Cond.selects "LandSurveyModel" yX12_readRock yX12_readRock ∈ uu := uu_in (i := 68) (by decide +kernel) (by decide +kernel)
theorem lk_LandSurveyModel_365 : lkV "LandSurveyModel" 365 yX12_readRock cX12_readRock 2 none 0 := ⟨kw_1803, kw_1805, kw_68, kw_152, kw_1806, okX12_readRock⟩
theorem dX12_readNext_12 : decode cX12_readNext 12 = .ok (.goto 172, 3) := by decide +kernel
def wr_k1_isWord : List Nat := []
set_option maxRecDepth 100000 in
set_option maxHeartbeats 4000000 in
theorem k1_isWord (l : Launch) (D : va_G) (cy : Nat → ClassId) (w : Nat → Nat) (z0 : Nat)  {h : Hp} {a0 : Nat} {a1 : Int}  (O : Okh h) (ta0 : Tg h a0 = 12) (fa1 : 0 ≤ a1 ∧ a1 ≤ 29) (P_RD : RD h a0) : MI l D cy w z0 yX12_isWord cX12_isWord 2 (some .boolean) 0 0 0 0 [.inr (.inr a0), .inl a1] h (fun v h1 => Okh h1 ∧ Fx wr_k1_isWord h h1 ∧ (0 ≤ v ∧ v ≤ 1) ∧ (v = 1 → Iv h a0 8 = 0 ∧ Iv h a0 7 < NT h a0)) := by
  obtain ⟨v1, e2⟩ : ∃ z, Iv h a0 7 = z := ⟨_, rfl⟩
  have f3 := ok_I O ta0 rI_12_7 e2
  obtain ⟨v4, e5⟩ : ∃ z, Iv h a0 8 = z := ⟨_, rfl⟩
  have f6 := ok_I O ta0 rI_12_8 e5
  obtain ⟨v7, e8⟩ : ∃ z, Iv h a0 28 = z := ⟨_, rfl⟩
  have f9 := ok_I O ta0 rI_12_28 e8
  obtain ⟨p10, p11, p12, p13⟩ := P_RD
  obtain ⟨v14, e15⟩ : ∃ z, NT h a0 = z := ⟨_, rfl⟩
  have f16 : (0 : Int) ≤ v14 ∧ v14 ≤ (1500 : Int) := NT_rng p10 e15
  rw [e2, e15] at p11
  rw [e5, e2, e15] at p12
  rw [e8, e2] at p13
  refine hm_go (by decide +kernel) (Nat.le_of_ble_eq_true rfl) (fun p e s m below meth c C hr hn => ?_)
  refine g_aload_n C rfl 0 rfl dX12_isWord_0 ?_
  refine gf_I C fk_LandSurveyModel_320 rfl ta0 e5 dX12_isWord_1 ?_
  refine g_if_ne C (iw f6 (by decide) (by decide)) 43 (by decide) dX12_isWord_4 (fun q17 => ?_) (fun q18 => ?_)
  · have f19 : (1 : Int) ≤ v4 ∧ v4 ≤ (24005 : Int) := r_nl f6 q17
    refine g_iconst C dX12_isWord_43 ?_
    exact g_iret C hr (nar_z2 (iw (il 0) (by decide) (by decide))).1 (iw (il 0) (by decide) (by decide)) ⟨O, Fx.rf, (iw (il 0) (by decide) (by decide)), (fun z => absurd z (by decide))⟩ (by decide) (by decide) dX12_isWord_44
  · have f20 : (0 : Int) ≤ v4 ∧ v4 ≤ (0 : Int) := ii f6 (r_eq (il 0) q18) (by decide) (by decide)
    refine g_aload_n C rfl 0 rfl dX12_isWord_7 ?_
    obtain ⟨v21, e22⟩ : ∃ z, Rv h a0 4 = z := ⟨_, rfl⟩
    have t23 := ok_R O ta0 rE_12_4 e22
    have l24 := ok_L O ta0 rE_12_4 e22
    refine gf_R C fk_LandSurveyModel_24 rfl ta0 e22 dX12_isWord_8 ?_
    refine g_aload_n C rfl 0 rfl dX12_isWord_11 ?_
    refine gf_I C fk_LandSurveyModel_317 rfl ta0 e2 dX12_isWord_12 ?_
    obtain ⟨v25, e26⟩ : ∃ z, Iv h v21 v1.toNat = z := ⟨_, rfl⟩
    have f27 := ok_Ia O t23 ar_104100 rI_104100_0 e26
    refine g_iald C t23 rfl l24 (ix f3 (by decide) (by decide)) e26 dX12_isWord_15 ?_
    refine g_iconst C dX12_isWord_16 ?_
    refine g_icmp_ne C (iw f27 (by decide) (by decide)) (iw (il 1) (by decide) (by decide)) 43 (by decide) dX12_isWord_17 (fun q28 => ?_) (fun q29 => ?_)
    · refine g_iconst C dX12_isWord_43 ?_
      exact g_iret C hr (nar_z2 (iw (il 0) (by decide) (by decide))).1 (iw (il 0) (by decide) (by decide)) ⟨O, Fx.rf, (iw (il 0) (by decide) (by decide)), (fun z => absurd z (by decide))⟩ (by decide) (by decide) dX12_isWord_44
    · have f30 : (1 : Int) ≤ v25 ∧ v25 ≤ (1 : Int) := ii f27 (r_eq (il 1) q29) (by decide) (by decide)
      refine g_aload_n C rfl 0 rfl dX12_isWord_20 ?_
      obtain ⟨v31, e32⟩ : ∃ z, Rv h a0 6 = z := ⟨_, rfl⟩
      have t33 := ok_R O ta0 rE_12_6 e32
      have l34 := ok_L O ta0 rE_12_6 e32
      refine gf_R C fk_LandSurveyModel_30 rfl ta0 e32 dX12_isWord_21 ?_
      refine g_aload_n C rfl 0 rfl dX12_isWord_24 ?_
      refine gf_I C fk_LandSurveyModel_317 rfl ta0 e2 dX12_isWord_25 ?_
      obtain ⟨v35, e36⟩ : ∃ z, Jv h v31 v1.toNat = z := ⟨_, rfl⟩
      have f37 := inL_J O e36
      refine g_lald C t33 rfl l34 (ix f3 (by decide) (by decide)) e36 dX12_isWord_28 ?_
      refine g_aload_n C rfl 0 rfl dX12_isWord_29 ?_
      obtain ⟨v38, e39⟩ : ∃ z, Rv h a0 9 = z := ⟨_, rfl⟩
      have t40 := ok_R O ta0 rE_12_9 e39
      have l41 := ok_L O ta0 rE_12_9 e39
      refine gf_R C fk_LandSurveyModel_94 rfl ta0 e39 dX12_isWord_30 ?_
      refine g_iload_n C rfl 1 rfl dX12_isWord_33 ?_
      obtain ⟨v42, e43⟩ : ∃ z, Jv h v38 a1.toNat = z := ⟨_, rfl⟩
      have f44 := inL_J O e43
      refine g_lald C t40 rfl l41 (ix fa1 (by decide) (by decide)) e43 dX12_isWord_34 ?_
      refine g_lcmp C f37 f44 dX12_isWord_35 ?_
      have f45 : (-1 : Int) ≤ (lC v35 v42) ∧ (lC v35 v42) ≤ (1 : Int) := lC_rng _ _
      refine g_if_ne C (iw f45 (by decide) (by decide)) 43 (by decide) dX12_isWord_36 (fun q46 => ?_) (fun q47 => ?_)
      · have q48 : ¬ v35 = v42 := fun z => q46 (lC_eq.mpr z)
        refine g_iconst C dX12_isWord_43 ?_
        exact g_iret C hr (nar_z2 (iw (il 0) (by decide) (by decide))).1 (iw (il 0) (by decide) (by decide)) ⟨O, Fx.rf, (iw (il 0) (by decide) (by decide)), (fun z => absurd z (by decide))⟩ (by decide) (by decide) dX12_isWord_44
      · have q49 : v35 = v42 := lC_eq.mp q47
        refine g_iconst C dX12_isWord_39 ?_
        refine g_goto C 44 (by decide) dX12_isWord_40 ?_
        exact g_iret C hr (nar_z2 (iw (il 1) (by decide) (by decide))).1 (iw (il 1) (by decide) (by decide)) ⟨O, Fx.rf, (iw (il 1) (by decide) (by decide)), (fun _ => ⟨by rw [e5]; omega, by rw [e2, e15]; exact NT_lt p10 e15 (by omega) (by omega) (by rw [e22, e26]; omega)⟩)⟩ (by decide) (by decide) dX12_isWord_44
def wr_k_X12_readNext : List Nat := [2407, 2408, 2428, 22420000, 22620400, 22820000, 23020000, 23220200, 23420200, 23620200, 23820000, 24020200, 24220000, 24420000, 24620000, 24820000, 25020000, 25220000, 25420000, 25820000, 26020000]
set_option maxRecDepth 100000 in
set_option maxHeartbeats 4000000 in
theorem k_X12_readNext (l : Launch) (D : va_G) (cy : Nat → ClassId) (w : Nat → Nat) (z0 : Nat)  {h : Hp} {a0 : Nat}  (O : Okh h) (ta0 : Tg h a0 = 12) (P_RD : RD h a0) (P_MInv : MInv h a0) (P_DLf : DLf h a0) : MV l D cy w z0 yX12_readNext cX12_readNext 3 none 23 509 0 0 [.inr (.inr a0)] h (fun h1 => Okh h1 ∧ Fx wr_k_X12_readNext h h1 ∧ (RD h1 a0) ∧ (ST h h1 a0) ∧ (MInv h1 a0) ∧ (DLf h1 a0) ∧ (Iv h1 a0 8 = 0 → Iv h a0 7 < Iv h1 a0 7)) := by
  obtain ⟨v1, e2⟩ : ∃ z, Iv h a0 7 = z := ⟨_, rfl⟩
  have f3 := ok_I O ta0 rI_12_7 e2
  obtain ⟨v4, e5⟩ : ∃ z, Iv h a0 8 = z := ⟨_, rfl⟩
  have f6 := ok_I O ta0 rI_12_8 e5
  obtain ⟨v7, e8⟩ : ∃ z, Iv h a0 28 = z := ⟨_, rfl⟩
  have f9 := ok_I O ta0 rI_12_28 e8
  obtain ⟨p10, p11, p12, p13⟩ := P_RD
  obtain ⟨v14, e15⟩ : ∃ z, NT h a0 = z := ⟨_, rfl⟩
  have f16 : (0 : Int) ≤ v14 ∧ v14 ≤ (1500 : Int) := NT_rng p10 e15
  rw [e2, e15] at p11
  rw [e5, e2, e15] at p12
  rw [e8, e2] at p13
  refine hm_go (by decide +kernel) (Nat.le_of_ble_eq_true rfl) (fun p e s m below meth c C hr hn => ?_)
  have J18 : ∀ (h17 : Hp), Okh h17 → Fx [2407, 2408, 2428, 22420000, 22620400, 22820000, 23020000, 23220200, 23420200, 23620200, 23820000, 24020200, 24220000, 24420000, 24620000, 24820000, 25020000, 25220000, 25420000, 25820000, 26020000] h h17 → (RD h17 a0) → (ST h h17 a0) → (MInv h17 a0) → (DLf h17 a0) → GW p l e (rmm 23 509 0 0) s m (List.map toV [.inr (.inr a0)]).toArray below meth c D cy z0 3 (MQ below (QV D cy z0 (fun h1 => Okh h1 ∧ Fx wr_k_X12_readNext h h1 ∧ (RD h1 a0) ∧ (ST h h1 a0) ∧ (MInv h1 a0) ∧ (DLf h1 a0) ∧ (Iv h1 a0 8 = 0 → Iv h a0 7 < Iv h1 a0 7))) (List.map toV [.inr (.inr a0)]).toArray s 0 0 (Aof z0)) 184 [(0, .inr (.inr a0))] [] h17 0 0 := by
    intro h17 O19 F20 p21 p22 p23 p24
    obtain ⟨v25, e26⟩ : ∃ z, Iv h17 a0 7 = z := ⟨_, rfl⟩
    have e27 : Tg h17 a0 = 12 := (fxT F20 ta0)
    have f28 := ok_I O19 e27 rI_12_7 e26
    obtain ⟨v29, e30⟩ : ∃ z, Iv h17 a0 8 = z := ⟨_, rfl⟩
    have f31 := ok_I O19 e27 rI_12_8 e30
    obtain ⟨v32, e33⟩ : ∃ z, Iv h17 a0 28 = z := ⟨_, rfl⟩
    have f34 := ok_I O19 e27 rI_12_28 e33
    obtain ⟨p35, p36, p37, p38⟩ := p21
    have p39 := ((NT_fx O F20 ta0 rfl).trans e15)
    rw [e26, p39] at p36
    rw [e30, e26, p39] at p37
    rw [e33, e26] at p38
    have p40 := p22
    unfold ST at p40
    rw [e2, e26, e8, e33, e5, e30] at p40
    refine g_aload_n C rfl 0 rfl dX12_readNext_184 ?_
    refine g_bipush C (by decide) dX12_readNext_185 ?_
    refine g_callV (st := []) (gc_V C lk_LandSurveyModel_380 (k_X12_takeSign l D cy w z0 O19 e27 (iw (il 59) (by decide) (by decide)) ⟨p35, by rw [e26, p39]; omega, by rw [e30, e26, p39]; omega, by rw [e33, e26]; omega⟩) e27 rfl rfl rfl ⟨by decide, by decide⟩ (Nat.le_of_ble_eq_true rfl) dX12_readNext_187 ⟨(by decide), (by decide)⟩) (fun h42 K43 => ?_)
    obtain ⟨O45, F46, p47, p48, p49⟩ := K43
    obtain ⟨v50, e51⟩ : ∃ z, Iv h42 a0 7 = z := ⟨_, rfl⟩
    have e52 : Tg h42 a0 = 12 := (fxT F46 e27)
    have f53 := ok_I O45 e52 rI_12_7 e51
    obtain ⟨v54, e55⟩ : ∃ z, Iv h42 a0 8 = z := ⟨_, rfl⟩
    have f56 := ok_I O45 e52 rI_12_8 e55
    have e57 : Iv h42 a0 28 = v32 := ((fxI F46 e27 rfl).trans e33)
    obtain ⟨p58, p59, p60, p61⟩ := p47
    have p62 := ((NT_fx O19 F46 e27 rfl).trans p39)
    rw [e51, p62] at p59
    rw [e55, e51, p62] at p60
    rw [e57, e51] at p61
    have p63 := p48
    unfold ST at p63
    rw [e26, e51, e33, e57, e30, e55] at p63
    rw [e55, e51, e26] at p49
    have p64 := (MInv_fx O19 F46 e27 rfl p23)
    have p65 := (DLf_mono O19 F46 e27 rfl p48.2.2 p24)
    exact g_vret C hr ⟨O45, (((Fx.rf (wr := wr_k_X12_readNext)).call F20 rfl).call F46 rfl), ⟨p58, by rw [e51, p62]; omega, by rw [e55, e51, p62]; omega, by rw [e57, e51]; omega⟩, (by unfold ST; rw [e2, e51, e8, e57, e5, e55]; omega), p64, p65, (by rw [e55, e2, e51]; omega)⟩ (by decide) (by decide) dX12_readNext_190
  refine g_aload_n C rfl 0 rfl dX12_readNext_0 ?_
  refine g_iconst C dX12_readNext_1 ?_
  refine g_callI (st := []) (gc_V C lk_LandSurveyModel_330 (k1_isWord l D cy w z0 O ta0 (iw (il 0) (by decide) (by decide)) ⟨p10, by rw [e2, e15]; omega, by rw [e5, e2, e15]; omega, by rw [e8, e2]; omega⟩) ta0 rfl rfl rfl ⟨by decide, by decide⟩ (Nat.le_of_ble_eq_true rfl) dX12_readNext_2 ⟨(by decide), (by decide)⟩) (fun r66 h67 f69 K68 => ?_)
  obtain ⟨O70, F71, f72, p73⟩ := K68
  rw [e5, e2, e15] at p73
  refine g_if_eq C (iw f72 (by decide) (by decide)) 15 (by decide) dX12_readNext_5 (fun q74 => ?_) (fun q75 => ?_)
  · have f76 : (0 : Int) ≤ r66 ∧ r66 ≤ (0 : Int) := ii f72 (r_eq (il 0) q74) (by decide) (by decide)
    refine g_aload_n C rfl 0 rfl dX12_readNext_15 ?_
    refine g_iconst C dX12_readNext_16 ?_
    have e77 : Tg h67 a0 = 12 := (fxT F71 ta0)
    have e78 : Iv h67 a0 7 = v1 := ((fxI F71 ta0 rfl).trans e2)
    have e79 : Iv h67 a0 8 = v4 := ((fxI F71 ta0 rfl).trans e5)
    have e80 : Iv h67 a0 28 = v7 := ((fxI F71 ta0 rfl).trans e8)
    have p81 := (TK_fx O F71 ta0 rfl p10)
    have p82 := ((NT_fx O F71 ta0 rfl).trans e15)
    refine g_callI (st := []) (gc_V C lk_LandSurveyModel_330 (k1_isWord l D cy w z0 O70 e77 (iw (il 1) (by decide) (by decide)) ⟨p81, by rw [e78, p82]; omega, by rw [e79, e78, p82]; omega, by rw [e80, e78]; omega⟩) e77 rfl rfl rfl ⟨by decide, by decide⟩ (Nat.le_of_ble_eq_true rfl) dX12_readNext_17 ⟨(by decide), (by decide)⟩) (fun r83 h84 f86 K85 => ?_)
    obtain ⟨O87, F88, f89, p90⟩ := K85
    rw [e79, e78, p82] at p90
    refine g_if_ne C (iw f89 (by decide) (by decide)) 39 (by decide) dX12_readNext_20 (fun q91 => ?_) (fun q92 => ?_)
    · have f93 : (1 : Int) ≤ r83 ∧ r83 ≤ (1 : Int) := r_nl f89 q91
      refine g_aload_n C rfl 0 rfl dX12_readNext_39 ?_
      have e94 : Tg h84 a0 = 12 := (fxT F88 e77)
      have e95 : Iv h84 a0 7 = v1 := ((fxI F88 e77 rfl).trans e78)
      have e96 : Iv h84 a0 8 = v4 := ((fxI F88 e77 rfl).trans e79)
      have e97 : Iv h84 a0 28 = v7 := ((fxI F88 e77 rfl).trans e80)
      have p98 := (TK_fx O70 F88 e77 rfl p81)
      have p99 := ((NT_fx O70 F88 e77 rfl).trans p82)
      have p100 := (MInv_fx O70 F88 e77 rfl (MInv_fx O F71 ta0 rfl P_MInv))
      have p101 := (DLf_fx O70 F88 e77 rfl (DLf_fx O F71 ta0 rfl P_DLf))
      refine g_callV (st := []) (gc_V C lk_LandSurveyModel_368 (k_X12_readLine l D cy w z0 O87 e94 ⟨p98, by rw [e95, p99]; omega, by rw [e96, e95, p99]; omega, by rw [e97, e95]; omega⟩ (by rw [e96, e95, p99]; omega) p100 p101) e94 rfl rfl rfl ⟨by decide, by decide⟩ (Nat.le_of_ble_eq_true rfl) dX12_readNext_40 ⟨(by decide), (by decide)⟩) (fun h103 K104 => ?_)
      obtain ⟨O106, F107, p108, p109, p110, p111⟩ := K104
      obtain ⟨v112, e113⟩ : ∃ z, Iv h103 a0 7 = z := ⟨_, rfl⟩
      have e114 : Tg h103 a0 = 12 := (fxT F107 e94)
      have f115 := ok_I O106 e114 rI_12_7 e113
      obtain ⟨v116, e117⟩ : ∃ z, Iv h103 a0 8 = z := ⟨_, rfl⟩
      have f118 := ok_I O106 e114 rI_12_8 e117
      obtain ⟨v119, e120⟩ : ∃ z, Iv h103 a0 28 = z := ⟨_, rfl⟩
      have f121 := ok_I O106 e114 rI_12_28 e120
      obtain ⟨p122, p123, p124, p125⟩ := p108
      have p126 := ((NT_fx O87 F107 e94 rfl).trans p99)
      rw [e113, p126] at p123
      rw [e117, e113, p126] at p124
      rw [e120, e113] at p125
      have p127 := p109
      unfold ST at p127
      rw [e95, e113, e97, e120, e96, e117] at p127
      refine g_goto C 184 (by decide) dX12_readNext_43 ?_
      refine GW.sub [0] rfl ?_
      exact J18 _ O106 ((((Fx.rf (wr := [2407, 2408, 2428, 22420000, 22620400, 22820000, 23020000, 23220200, 23420200, 23620200, 23820000, 24020200, 24220000, 24420000, 24620000, 24820000, 25020000, 25220000, 25420000, 25820000, 26020000]) (h := h)).call F71 rfl).call F88 rfl).call F107 rfl) ⟨p122, by rw [e113, p126]; omega, by rw [e117, e113, p126]; omega, by rw [e120, e113]; omega⟩ (by unfold ST; rw [e2, e113, e8, e120, e5, e117]; omega) p110 p111
    · have f128 : (0 : Int) ≤ r83 ∧ r83 ≤ (0 : Int) := ii f89 (r_eq (il 0) q92) (by decide) (by decide)
      refine g_aload_n C rfl 0 rfl dX12_readNext_23 ?_
      refine g_iconst C dX12_readNext_24 ?_
      have e129 : Tg h84 a0 = 12 := (fxT F88 e77)
      have e130 : Iv h84 a0 7 = v1 := ((fxI F88 e77 rfl).trans e78)
      have e131 : Iv h84 a0 8 = v4 := ((fxI F88 e77 rfl).trans e79)
      have e132 : Iv h84 a0 28 = v7 := ((fxI F88 e77 rfl).trans e80)
      have p133 := (TK_fx O70 F88 e77 rfl p81)
      have p134 := ((NT_fx O70 F88 e77 rfl).trans p82)
      refine g_callI (st := []) (gc_V C lk_LandSurveyModel_330 (k1_isWord l D cy w z0 O87 e129 (iw (il 2) (by decide) (by decide)) ⟨p133, by rw [e130, p134]; omega, by rw [e131, e130, p134]; omega, by rw [e132, e130]; omega⟩) e129 rfl rfl rfl ⟨by decide, by decide⟩ (Nat.le_of_ble_eq_true rfl) dX12_readNext_25 ⟨(by decide), (by decide)⟩) (fun r135 h136 f138 K137 => ?_)
      obtain ⟨O139, F140, f141, p142⟩ := K137
      rw [e131, e130, p134] at p142
      refine g_if_ne C (iw f141 (by decide) (by decide)) 39 (by decide) dX12_readNext_28 (fun q143 => ?_) (fun q144 => ?_)
      · have f145 : (1 : Int) ≤ r135 ∧ r135 ≤ (1 : Int) := r_nl f141 q143
        refine g_aload_n C rfl 0 rfl dX12_readNext_39 ?_
        have e146 : Tg h136 a0 = 12 := (fxT F140 e129)
        have e147 : Iv h136 a0 7 = v1 := ((fxI F140 e129 rfl).trans e130)
        have e148 : Iv h136 a0 8 = v4 := ((fxI F140 e129 rfl).trans e131)
        have e149 : Iv h136 a0 28 = v7 := ((fxI F140 e129 rfl).trans e132)
        have p150 := (TK_fx O87 F140 e129 rfl p133)
        have p151 := ((NT_fx O87 F140 e129 rfl).trans p134)
        have p152 := (MInv_fx O87 F140 e129 rfl (MInv_fx O70 F88 e77 rfl (MInv_fx O F71 ta0 rfl P_MInv)))
        have p153 := (DLf_fx O87 F140 e129 rfl (DLf_fx O70 F88 e77 rfl (DLf_fx O F71 ta0 rfl P_DLf)))
        refine g_callV (st := []) (gc_V C lk_LandSurveyModel_368 (k_X12_readLine l D cy w z0 O139 e146 ⟨p150, by rw [e147, p151]; omega, by rw [e148, e147, p151]; omega, by rw [e149, e147]; omega⟩ (by rw [e148, e147, p151]; omega) p152 p153) e146 rfl rfl rfl ⟨by decide, by decide⟩ (Nat.le_of_ble_eq_true rfl) dX12_readNext_40 ⟨(by decide), (by decide)⟩) (fun h155 K156 => ?_)
        obtain ⟨O158, F159, p160, p161, p162, p163⟩ := K156
        obtain ⟨v164, e165⟩ : ∃ z, Iv h155 a0 7 = z := ⟨_, rfl⟩
        have e166 : Tg h155 a0 = 12 := (fxT F159 e146)
        have f167 := ok_I O158 e166 rI_12_7 e165
        obtain ⟨v168, e169⟩ : ∃ z, Iv h155 a0 8 = z := ⟨_, rfl⟩
        have f170 := ok_I O158 e166 rI_12_8 e169
        obtain ⟨v171, e172⟩ : ∃ z, Iv h155 a0 28 = z := ⟨_, rfl⟩
        have f173 := ok_I O158 e166 rI_12_28 e172
        obtain ⟨p174, p175, p176, p177⟩ := p160
        have p178 := ((NT_fx O139 F159 e146 rfl).trans p151)
        rw [e165, p178] at p175
        rw [e169, e165, p178] at p176
        rw [e172, e165] at p177
        have p179 := p161
        unfold ST at p179
        rw [e147, e165, e149, e172, e148, e169] at p179
        refine g_goto C 184 (by decide) dX12_readNext_43 ?_
        refine GW.sub [0] rfl ?_
        exact J18 _ O158 (((((Fx.rf (wr := [2407, 2408, 2428, 22420000, 22620400, 22820000, 23020000, 23220200, 23420200, 23620200, 23820000, 24020200, 24220000, 24420000, 24620000, 24820000, 25020000, 25220000, 25420000, 25820000, 26020000]) (h := h)).call F71 rfl).call F88 rfl).call F140 rfl).call F159 rfl) ⟨p174, by rw [e165, p178]; omega, by rw [e169, e165, p178]; omega, by rw [e172, e165]; omega⟩ (by unfold ST; rw [e2, e165, e8, e172, e5, e169]; omega) p162 p163
      · have f180 : (0 : Int) ≤ r135 ∧ r135 ≤ (0 : Int) := ii f141 (r_eq (il 0) q144) (by decide) (by decide)
        refine g_aload_n C rfl 0 rfl dX12_readNext_31 ?_
        refine g_iconst C dX12_readNext_32 ?_
        have e181 : Tg h136 a0 = 12 := (fxT F140 e129)
        have e182 : Iv h136 a0 7 = v1 := ((fxI F140 e129 rfl).trans e130)
        have e183 : Iv h136 a0 8 = v4 := ((fxI F140 e129 rfl).trans e131)
        have e184 : Iv h136 a0 28 = v7 := ((fxI F140 e129 rfl).trans e132)
        have p185 := (TK_fx O87 F140 e129 rfl p133)
        have p186 := ((NT_fx O87 F140 e129 rfl).trans p134)
        refine g_callI (st := []) (gc_V C lk_LandSurveyModel_330 (k1_isWord l D cy w z0 O139 e181 (iw (il 3) (by decide) (by decide)) ⟨p185, by rw [e182, p186]; omega, by rw [e183, e182, p186]; omega, by rw [e184, e182]; omega⟩) e181 rfl rfl rfl ⟨by decide, by decide⟩ (Nat.le_of_ble_eq_true rfl) dX12_readNext_33 ⟨(by decide), (by decide)⟩) (fun r187 h188 f190 K189 => ?_)
        obtain ⟨O191, F192, f193, p194⟩ := K189
        rw [e183, e182, p186] at p194
        refine g_if_eq C (iw f193 (by decide) (by decide)) 46 (by decide) dX12_readNext_36 (fun q195 => ?_) (fun q196 => ?_)
        · have f197 : (0 : Int) ≤ r187 ∧ r187 ≤ (0 : Int) := ii f193 (r_eq (il 0) q195) (by decide) (by decide)
          refine g_aload_n C rfl 0 rfl dX12_readNext_46 ?_
          refine g_iconst C dX12_readNext_47 ?_
          have e198 : Tg h188 a0 = 12 := (fxT F192 e181)
          have e199 : Iv h188 a0 7 = v1 := ((fxI F192 e181 rfl).trans e182)
          have e200 : Iv h188 a0 8 = v4 := ((fxI F192 e181 rfl).trans e183)
          have e201 : Iv h188 a0 28 = v7 := ((fxI F192 e181 rfl).trans e184)
          have p202 := (TK_fx O139 F192 e181 rfl p185)
          have p203 := ((NT_fx O139 F192 e181 rfl).trans p186)
          refine g_callI (st := []) (gc_V C lk_LandSurveyModel_330 (k1_isWord l D cy w z0 O191 e198 (iw (il 4) (by decide) (by decide)) ⟨p202, by rw [e199, p203]; omega, by rw [e200, e199, p203]; omega, by rw [e201, e199]; omega⟩) e198 rfl rfl rfl ⟨by decide, by decide⟩ (Nat.le_of_ble_eq_true rfl) dX12_readNext_48 ⟨(by decide), (by decide)⟩) (fun r204 h205 f207 K206 => ?_)
          obtain ⟨O208, F209, f210, p211⟩ := K206
          rw [e200, e199, p203] at p211
          refine g_if_ne C (iw f210 (by decide) (by decide)) 62 (by decide) dX12_readNext_51 (fun q212 => ?_) (fun q213 => ?_)
          · have f214 : (1 : Int) ≤ r204 ∧ r204 ≤ (1 : Int) := r_nl f210 q212
            refine g_aload_n C rfl 0 rfl dX12_readNext_62 ?_
            have e215 : Tg h205 a0 = 12 := (fxT F209 e198)
            have e216 : Iv h205 a0 7 = v1 := ((fxI F209 e198 rfl).trans e199)
            have e217 : Iv h205 a0 8 = v4 := ((fxI F209 e198 rfl).trans e200)
            have e218 : Iv h205 a0 28 = v7 := ((fxI F209 e198 rfl).trans e201)
            have p219 := (TK_fx O191 F209 e198 rfl p202)
            have p220 := ((NT_fx O191 F209 e198 rfl).trans p203)
            refine g_callV (st := []) (gc_V C lk_LandSurveyModel_371 (k_X12_readBound l D cy w z0 O208 e215 ⟨p219, by rw [e216, p220]; omega, by rw [e217, e216, p220]; omega, by rw [e218, e216]; omega⟩ (by rw [e217, e216, p220]; omega)) e215 rfl rfl rfl ⟨by decide, by decide⟩ (Nat.le_of_ble_eq_true rfl) dX12_readNext_63 ⟨(by decide), (by decide)⟩) (fun h222 K223 => ?_)
            obtain ⟨O225, F226, p227, p228⟩ := K223
            obtain ⟨v229, e230⟩ : ∃ z, Iv h222 a0 7 = z := ⟨_, rfl⟩
            have e231 : Tg h222 a0 = 12 := (fxT F226 e215)
            have f232 := ok_I O225 e231 rI_12_7 e230
            obtain ⟨v233, e234⟩ : ∃ z, Iv h222 a0 8 = z := ⟨_, rfl⟩
            have f235 := ok_I O225 e231 rI_12_8 e234
            have e236 : Iv h222 a0 28 = v7 := ((fxI F226 e215 rfl).trans e218)
            obtain ⟨p237, p238, p239, p240⟩ := p227
            have p241 := ((NT_fx O208 F226 e215 rfl).trans p220)
            rw [e230, p241] at p238
            rw [e234, e230, p241] at p239
            rw [e236, e230] at p240
            have p242 := p228
            unfold ST at p242
            rw [e216, e230, e218, e236, e217, e234] at p242
            refine g_goto C 184 (by decide) dX12_readNext_66 ?_
            refine GW.sub [0] rfl ?_
            have p243 := (MInv_fx O208 F226 e215 rfl (MInv_fx O191 F209 e198 rfl (MInv_fx O139 F192 e181 rfl (MInv_fx O87 F140 e129 rfl (MInv_fx O70 F88 e77 rfl (MInv_fx O F71 ta0 rfl P_MInv))))))
            have p244 := (DLf_mono O208 F226 e215 rfl p228.2.2 (DLf_fx O191 F209 e198 rfl (DLf_fx O139 F192 e181 rfl (DLf_fx O87 F140 e129 rfl (DLf_fx O70 F88 e77 rfl (DLf_fx O F71 ta0 rfl P_DLf))))))
            exact J18 _ O225 (((((((Fx.rf (wr := [2407, 2408, 2428, 22420000, 22620400, 22820000, 23020000, 23220200, 23420200, 23620200, 23820000, 24020200, 24220000, 24420000, 24620000, 24820000, 25020000, 25220000, 25420000, 25820000, 26020000]) (h := h)).call F71 rfl).call F88 rfl).call F140 rfl).call F192 rfl).call F209 rfl).call F226 rfl) ⟨p237, by rw [e230, p241]; omega, by rw [e234, e230, p241]; omega, by rw [e236, e230]; omega⟩ (by unfold ST; rw [e2, e230, e8, e236, e5, e234]; omega) p243 p244
          · have f245 : (0 : Int) ≤ r204 ∧ r204 ≤ (0 : Int) := ii f210 (r_eq (il 0) q213) (by decide) (by decide)
            refine g_aload_n C rfl 0 rfl dX12_readNext_54 ?_
            refine g_iconst C dX12_readNext_55 ?_
            have e246 : Tg h205 a0 = 12 := (fxT F209 e198)
            have e247 : Iv h205 a0 7 = v1 := ((fxI F209 e198 rfl).trans e199)
            have e248 : Iv h205 a0 8 = v4 := ((fxI F209 e198 rfl).trans e200)
            have e249 : Iv h205 a0 28 = v7 := ((fxI F209 e198 rfl).trans e201)
            have p250 := (TK_fx O191 F209 e198 rfl p202)
            have p251 := ((NT_fx O191 F209 e198 rfl).trans p203)
            refine g_callI (st := []) (gc_V C lk_LandSurveyModel_330 (k1_isWord l D cy w z0 O208 e246 (iw (il 5) (by decide) (by decide)) ⟨p250, by rw [e247, p251]; omega, by rw [e248, e247, p251]; omega, by rw [e249, e247]; omega⟩) e246 rfl rfl rfl ⟨by decide, by decide⟩ (Nat.le_of_ble_eq_true rfl) dX12_readNext_56 ⟨(by decide), (by decide)⟩) (fun r252 h253 f255 K254 => ?_)
            obtain ⟨O256, F257, f258, p259⟩ := K254
            rw [e248, e247, p251] at p259
            refine g_if_eq C (iw f258 (by decide) (by decide)) 69 (by decide) dX12_readNext_59 (fun q260 => ?_) (fun q261 => ?_)
            · have f262 : (0 : Int) ≤ r252 ∧ r252 ≤ (0 : Int) := ii f258 (r_eq (il 0) q260) (by decide) (by decide)
              refine g_aload_n C rfl 0 rfl dX12_readNext_69 ?_
              refine g_bipush C (by decide) dX12_readNext_70 ?_
              have e263 : Tg h253 a0 = 12 := (fxT F257 e246)
              have e264 : Iv h253 a0 7 = v1 := ((fxI F257 e246 rfl).trans e247)
              have e265 : Iv h253 a0 8 = v4 := ((fxI F257 e246 rfl).trans e248)
              have e266 : Iv h253 a0 28 = v7 := ((fxI F257 e246 rfl).trans e249)
              have p267 := (TK_fx O208 F257 e246 rfl p250)
              have p268 := ((NT_fx O208 F257 e246 rfl).trans p251)
              refine g_callI (st := []) (gc_V C lk_LandSurveyModel_330 (k1_isWord l D cy w z0 O256 e263 (iw (il 6) (by decide) (by decide)) ⟨p267, by rw [e264, p268]; omega, by rw [e265, e264, p268]; omega, by rw [e266, e264]; omega⟩) e263 rfl rfl rfl ⟨by decide, by decide⟩ (Nat.le_of_ble_eq_true rfl) dX12_readNext_72 ⟨(by decide), (by decide)⟩) (fun r269 h270 f272 K271 => ?_)
              obtain ⟨O273, F274, f275, p276⟩ := K271
              rw [e265, e264, p268] at p276
              refine g_if_ne C (iw f275 (by decide) (by decide)) 87 (by decide) dX12_readNext_75 (fun q277 => ?_) (fun q278 => ?_)
              · have f279 : (1 : Int) ≤ r269 ∧ r269 ≤ (1 : Int) := r_nl f275 q277
                refine g_aload_n C rfl 0 rfl dX12_readNext_87 ?_
                refine g_bipush C (by decide) dX12_readNext_88 ?_
                have e280 : Tg h270 a0 = 12 := (fxT F274 e263)
                have e281 : Iv h270 a0 7 = v1 := ((fxI F274 e263 rfl).trans e264)
                have e282 : Iv h270 a0 8 = v4 := ((fxI F274 e263 rfl).trans e265)
                have e283 : Iv h270 a0 28 = v7 := ((fxI F274 e263 rfl).trans e266)
                have p284 := (TK_fx O256 F274 e263 rfl p267)
                have p285 := ((NT_fx O256 F274 e263 rfl).trans p268)
                refine g_callI (st := []) (gc_V C lk_LandSurveyModel_330 (k1_isWord l D cy w z0 O273 e280 (iw (il 7) (by decide) (by decide)) ⟨p284, by rw [e281, p285]; omega, by rw [e282, e281, p285]; omega, by rw [e283, e281]; omega⟩) e280 rfl rfl rfl ⟨by decide, by decide⟩ (Nat.le_of_ble_eq_true rfl) dX12_readNext_90 ⟨(by decide), (by decide)⟩) (fun r286 h287 f289 K288 => ?_)
                obtain ⟨O290, F291, f292, p293⟩ := K288
                rw [e282, e281, p285] at p293
                refine g_istore_n C [(1, .inl r286), (0, .inr (.inr a0))] rfl (by decide) rfl dX12_readNext_93 ?_
                refine g_aload_n C rfl 1 rfl dX12_readNext_94 ?_
                refine g_dup C rfl dX12_readNext_95 ?_
                have e294 : Tg h287 a0 = 12 := (fxT F291 e280)
                have e295 : Iv h287 a0 7 = v1 := ((fxI F291 e280 rfl).trans e281)
                refine gf_I C fk_LandSurveyModel_317 rfl e294 e295 dX12_readNext_96 ?_
                refine g_iconst C dX12_readNext_99 ?_
                have f296 : (1 : Int) ≤ (v1 + 1) ∧ (v1 + 1) ≤ (1502 : Int) := ia_add f3 (il 1) (by decide) (by decide)
                refine g_iadd C dX12_readNext_100 ?_
                refine gp_I C fk_LandSurveyModel_317 pk_LandSurveyModel_7 rfl e294 (iw f296 (by decide) (by decide)) (nf_i _) dX12_readNext_101 (fun h298 hh297 => ?_)
                have O299 := O290.pI e294 hh297 rI_12_7 (by omega) nofun
                refine g_bipush C (by decide) dX12_readNext_104 ?_
                refine g_aload_n C rfl 1 rfl dX12_readNext_106 ?_
                have e300 : Tg h298 a0 = 12 := ((pIT hh297).trans e294)
                have e301 : Iv h298 a0 8 = v4 := ((pI_j hh297 (by decide)).trans ((fxI F291 e280 rfl).trans e282))
                have e302 : Iv h298 a0 28 = v7 := ((pI_j hh297 (by decide)).trans ((fxI F291 e280 rfl).trans e283))
                have p303 := (TK_fx O290 ((Fx.rf (wr := [2407]) (h := h287)).pI e294 hh297 rfl) e294 rfl (TK_fx O273 F291 e280 rfl p284))
                have p304 := ((NT_fx O290 ((Fx.rf (wr := [2407]) (h := h287)).pI e294 hh297 rfl) e294 rfl).trans ((NT_fx O273 F291 e280 rfl).trans p285))
                refine g_callI (st := [.inl 80]) (gc_V C lk_LandSurveyModel_374 (k_X12_takeRock l D cy w z0 O299 e300 ⟨p303, by rw [(pI_e hh297), p304]; omega, by rw [e301, (pI_e hh297), p304]; omega, by rw [e302, (pI_e hh297)]; omega⟩) e300 rfl rfl rfl ⟨by decide, by decide⟩ (Nat.le_of_ble_eq_true rfl) dX12_readNext_107 ⟨(by decide), (by decide)⟩) (fun r305 h306 f308 K307 => ?_)
                obtain ⟨O309, F310, f311, p312, p313⟩ := K307
                obtain ⟨v314, e315⟩ : ∃ z, Iv h306 a0 7 = z := ⟨_, rfl⟩
                have e316 : Tg h306 a0 = 12 := (fxT F310 e300)
                have f317 := ok_I O309 e316 rI_12_7 e315
                obtain ⟨v318, e319⟩ : ∃ z, Iv h306 a0 8 = z := ⟨_, rfl⟩
                have f320 := ok_I O309 e316 rI_12_8 e319
                have e321 : Iv h306 a0 28 = v7 := ((fxI F310 e300 rfl).trans e302)
                obtain ⟨p322, p323, p324, p325⟩ := p312
                have p326 := ((NT_fx O299 F310 e300 rfl).trans p304)
                rw [e315, p326] at p323
                rw [e319, e315, p326] at p324
                rw [e321, e315] at p325
                have p327 := p313
                unfold ST at p327
                rw [(pI_e hh297), e315, e302, e321, e301, e319] at p327
                have f328 : (80 : Int) ≤ (80 + r305) ∧ (80 + r305) ≤ (89 : Int) := ia_add (il 80) f311 (by decide) (by decide)
                refine g_iadd C dX12_readNext_110 ?_
                refine g_istore_n C [(2, .inl (80 + r305)), (1, .inl r286), (0, .inr (.inr a0))] rfl (by decide) rfl dX12_readNext_111 ?_
                refine g_aload_n C rfl 2 rfl dX12_readNext_112 ?_
                obtain ⟨v329, e330⟩ : ∃ z, Rv h306 a0 17 = z := ⟨_, rfl⟩
                have t331 := ok_R O309 e316 rE_12_17 e330
                have l332 := ok_L O309 e316 rE_12_17 e330
                refine gf_R C fk_LandSurveyModel_116 rfl e316 e330 dX12_readNext_113 ?_
                refine g_iload_n C rfl 0 rfl dX12_readNext_116 ?_
                refine g_aload_n C rfl 2 rfl dX12_readNext_117 ?_
                refine gf_R C fk_LandSurveyModel_116 rfl e316 e330 dX12_readNext_118 ?_
                refine g_iload_n C rfl 0 rfl dX12_readNext_121 ?_
                obtain ⟨v333, e334⟩ : ∃ z, Iv h306 v329 ((80 + r305).toNat) = z := ⟨_, rfl⟩
                have f335 := ok_Ia O309 t331 ar_117101 rI_117101_0 e334
                refine g_zald C t331 rfl l332 (ix f328 (by decide) (by decide)) e334 dX12_readNext_122 ?_
                refine g_if_ne C (iw f335 (by decide) (by decide)) 130 (by decide) dX12_readNext_123 (fun q336 => ?_) (fun q337 => ?_)
                · have f338 : (1 : Int) ≤ v333 ∧ v333 ≤ (1 : Int) := r_nl f335 q336
                  refine g_iconst C dX12_readNext_130 ?_
                  refine g_goto C 135 (by decide) dX12_readNext_131 ?_
                  refine g_zast C t331 rfl l332 (ix f328 (by decide) (by decide)) (iw (il 1) (by decide) (by decide)) dX12_readNext_135 (fun h340 hh339 => ?_)
                  have O341 := O309.pIa t331 ar_117101 hh339 rI_117101_0 (iw (il 1) (by decide) (by decide)) nofun
                  refine g_aload_n C rfl 2 rfl dX12_readNext_136 ?_
                  have e342 : Tg h340 a0 = 12 := ((pIT hh339).trans e316)
                  obtain ⟨v343, e344⟩ : ∃ z, Rv h340 a0 16 = z := ⟨_, rfl⟩
                  have t345 := ok_R O341 e342 rE_12_16 e344
                  have l346 := ok_L O341 e342 rE_12_16 e344
                  refine gf_R C fk_LandSurveyModel_112 rfl e342 e344 dX12_readNext_137 ?_
                  refine g_iload_n C rfl 0 rfl dX12_readNext_140 ?_
                  refine g_aload_n C rfl 2 rfl dX12_readNext_141 ?_
                  refine gf_R C fk_LandSurveyModel_112 rfl e342 e344 dX12_readNext_142 ?_
                  refine g_iload_n C rfl 0 rfl dX12_readNext_145 ?_
                  obtain ⟨v347, e348⟩ : ∃ z, Iv h340 v343 ((80 + r305).toNat) = z := ⟨_, rfl⟩
                  have f349 := ok_Ia O341 t345 ar_116101 rI_116101_0 e348
                  refine g_zald C t345 rfl l346 (ix f328 (by decide) (by decide)) e348 dX12_readNext_146 ?_
                  refine g_if_ne C (iw f349 (by decide) (by decide)) 154 (by decide) dX12_readNext_147 (fun q350 => ?_) (fun q351 => ?_)
                  · have f352 : (1 : Int) ≤ v347 ∧ v347 ≤ (1 : Int) := r_nl f349 q350
                    refine g_iconst C dX12_readNext_154 ?_
                    refine g_goto C 159 (by decide) dX12_readNext_155 ?_
                    refine g_zast C t345 rfl l346 (ix f328 (by decide) (by decide)) (iw (il 1) (by decide) (by decide)) dX12_readNext_159 (fun h354 hh353 => ?_)
                    have O355 := O341.pIa t345 ar_116101 hh353 rI_116101_0 (iw (il 1) (by decide) (by decide)) nofun
                    refine g_goto C 184 (by decide) dX12_readNext_160 ?_
                    refine GW.sub [2] rfl ?_
                    have e356 : Iv h354 a0 7 = v314 := ((pI_n hh353 (ne_tag e342 t345 (by decide))).trans ((pI_n hh339 (ne_tag e316 t331 (by decide))).trans e315))
                    have e357 : Iv h354 a0 8 = v318 := ((pI_n hh353 (ne_tag e342 t345 (by decide))).trans ((pI_n hh339 (ne_tag e316 t331 (by decide))).trans e319))
                    have e358 : Iv h354 a0 28 = v7 := ((pI_n hh353 (ne_tag e342 t345 (by decide))).trans ((pI_n hh339 (ne_tag e316 t331 (by decide))).trans e321))
                    have p359 := (TK_fx O341 ((Fx.rf (wr := [23220200]) (h := h340)).pIa t345 ar_116101 hh353 rfl) e342 rfl (TK_fx O309 ((Fx.rf (wr := [23420200]) (h := h306)).pIa t331 ar_117101 hh339 rfl) e316 rfl p322))
                    have p360 := ((NT_fx O341 ((Fx.rf (wr := [23220200]) (h := h340)).pIa t345 ar_116101 hh353 rfl) e342 rfl).trans ((NT_fx O309 ((Fx.rf (wr := [23420200]) (h := h306)).pIa t331 ar_117101 hh339 rfl) e316 rfl).trans p326))
                    have p361 := (MInv_fx O341 ((Fx.rf (wr := [23220200]) (h := h340)).pIa t345 ar_116101 hh353 rfl) e342 rfl (MInv_fx O309 ((Fx.rf (wr := [23420200]) (h := h306)).pIa t331 ar_117101 hh339 rfl) e316 rfl (MInv_fx O299 F310 e300 rfl (MInv_fx O290 ((Fx.rf (wr := [2407]) (h := h287)).pI e294 hh297 rfl) e294 rfl (MInv_fx O273 F291 e280 rfl (MInv_fx O256 F274 e263 rfl (MInv_fx O208 F257 e246 rfl (MInv_fx O191 F209 e198 rfl (MInv_fx O139 F192 e181 rfl (MInv_fx O87 F140 e129 rfl (MInv_fx O70 F88 e77 rfl (MInv_fx O F71 ta0 rfl P_MInv))))))))))))
                    have p362 := (DLf_fx O341 ((Fx.rf (wr := [23220200]) (h := h340)).pIa t345 ar_116101 hh353 rfl) e342 rfl (DLf_fx O309 ((Fx.rf (wr := [23420200]) (h := h306)).pIa t331 ar_117101 hh339 rfl) e316 rfl (DLf_mono O299 F310 e300 rfl p313.2.2 (DLf_fx O290 ((Fx.rf (wr := [2407]) (h := h287)).pI e294 hh297 rfl) e294 rfl (DLf_fx O273 F291 e280 rfl (DLf_fx O256 F274 e263 rfl (DLf_fx O208 F257 e246 rfl (DLf_fx O191 F209 e198 rfl (DLf_fx O139 F192 e181 rfl (DLf_fx O87 F140 e129 rfl (DLf_fx O70 F88 e77 rfl (DLf_fx O F71 ta0 rfl P_DLf))))))))))))
                    exact J18 _ O355 (((((((((((((Fx.rf (wr := [2407, 2408, 2428, 22420000, 22620400, 22820000, 23020000, 23220200, 23420200, 23620200, 23820000, 24020200, 24220000, 24420000, 24620000, 24820000, 25020000, 25220000, 25420000, 25820000, 26020000]) (h := h)).call F71 rfl).call F88 rfl).call F140 rfl).call F192 rfl).call F209 rfl).call F257 rfl).call F274 rfl).call F291 rfl).pI e294 hh297 rfl).call F310 rfl).pIa t331 ar_117101 hh339 rfl).pIa t345 ar_116101 hh353 rfl) ⟨p359, by rw [e356, p360]; omega, by rw [e357, e356, p360]; omega, by rw [e358, e356]; omega⟩ (by unfold ST; rw [e2, e356, e8, e358, e5, e357]; omega) p361 p362
                  · have f363 : (0 : Int) ≤ v347 ∧ v347 ≤ (0 : Int) := ii f349 (r_eq (il 0) q351) (by decide) (by decide)
                    refine g_iload_n C rfl 1 rfl dX12_readNext_150 ?_
                    refine g_if_ne C (iw f292 (by decide) (by decide)) 158 (by decide) dX12_readNext_151 (fun q364 => ?_) (fun q365 => ?_)
                    · have f366 : (1 : Int) ≤ r286 ∧ r286 ≤ (1 : Int) := r_nl f292 q364
                      refine g_iconst C dX12_readNext_158 ?_
                      refine g_zast C t345 rfl l346 (ix f328 (by decide) (by decide)) (iw (il 0) (by decide) (by decide)) dX12_readNext_159 (fun h368 hh367 => ?_)
                      have O369 := O341.pIa t345 ar_116101 hh367 rI_116101_0 (iw (il 0) (by decide) (by decide)) nofun
                      refine g_goto C 184 (by decide) dX12_readNext_160 ?_
                      refine GW.sub [2] rfl ?_
                      have e370 : Iv h368 a0 7 = v314 := ((pI_n hh367 (ne_tag e342 t345 (by decide))).trans ((pI_n hh339 (ne_tag e316 t331 (by decide))).trans e315))
                      have e371 : Iv h368 a0 8 = v318 := ((pI_n hh367 (ne_tag e342 t345 (by decide))).trans ((pI_n hh339 (ne_tag e316 t331 (by decide))).trans e319))
                      have e372 : Iv h368 a0 28 = v7 := ((pI_n hh367 (ne_tag e342 t345 (by decide))).trans ((pI_n hh339 (ne_tag e316 t331 (by decide))).trans e321))
                      have p373 := (TK_fx O341 ((Fx.rf (wr := [23220200]) (h := h340)).pIa t345 ar_116101 hh367 rfl) e342 rfl (TK_fx O309 ((Fx.rf (wr := [23420200]) (h := h306)).pIa t331 ar_117101 hh339 rfl) e316 rfl p322))
                      have p374 := ((NT_fx O341 ((Fx.rf (wr := [23220200]) (h := h340)).pIa t345 ar_116101 hh367 rfl) e342 rfl).trans ((NT_fx O309 ((Fx.rf (wr := [23420200]) (h := h306)).pIa t331 ar_117101 hh339 rfl) e316 rfl).trans p326))
                      have p375 := (MInv_fx O341 ((Fx.rf (wr := [23220200]) (h := h340)).pIa t345 ar_116101 hh367 rfl) e342 rfl (MInv_fx O309 ((Fx.rf (wr := [23420200]) (h := h306)).pIa t331 ar_117101 hh339 rfl) e316 rfl (MInv_fx O299 F310 e300 rfl (MInv_fx O290 ((Fx.rf (wr := [2407]) (h := h287)).pI e294 hh297 rfl) e294 rfl (MInv_fx O273 F291 e280 rfl (MInv_fx O256 F274 e263 rfl (MInv_fx O208 F257 e246 rfl (MInv_fx O191 F209 e198 rfl (MInv_fx O139 F192 e181 rfl (MInv_fx O87 F140 e129 rfl (MInv_fx O70 F88 e77 rfl (MInv_fx O F71 ta0 rfl P_MInv))))))))))))
                      have p376 := (DLf_fx O341 ((Fx.rf (wr := [23220200]) (h := h340)).pIa t345 ar_116101 hh367 rfl) e342 rfl (DLf_fx O309 ((Fx.rf (wr := [23420200]) (h := h306)).pIa t331 ar_117101 hh339 rfl) e316 rfl (DLf_mono O299 F310 e300 rfl p313.2.2 (DLf_fx O290 ((Fx.rf (wr := [2407]) (h := h287)).pI e294 hh297 rfl) e294 rfl (DLf_fx O273 F291 e280 rfl (DLf_fx O256 F274 e263 rfl (DLf_fx O208 F257 e246 rfl (DLf_fx O191 F209 e198 rfl (DLf_fx O139 F192 e181 rfl (DLf_fx O87 F140 e129 rfl (DLf_fx O70 F88 e77 rfl (DLf_fx O F71 ta0 rfl P_DLf))))))))))))
                      exact J18 _ O369 (((((((((((((Fx.rf (wr := [2407, 2408, 2428, 22420000, 22620400, 22820000, 23020000, 23220200, 23420200, 23620200, 23820000, 24020200, 24220000, 24420000, 24620000, 24820000, 25020000, 25220000, 25420000, 25820000, 26020000]) (h := h)).call F71 rfl).call F88 rfl).call F140 rfl).call F192 rfl).call F209 rfl).call F257 rfl).call F274 rfl).call F291 rfl).pI e294 hh297 rfl).call F310 rfl).pIa t331 ar_117101 hh339 rfl).pIa t345 ar_116101 hh367 rfl) ⟨p373, by rw [e370, p374]; omega, by rw [e371, e370, p374]; omega, by rw [e372, e370]; omega⟩ (by unfold ST; rw [e2, e370, e8, e372, e5, e371]; omega) p375 p376
                    · have f377 : (0 : Int) ≤ r286 ∧ r286 ≤ (0 : Int) := ii f292 (r_eq (il 0) q365) (by decide) (by decide)
                      refine g_iconst C dX12_readNext_154 ?_
                      refine g_goto C 159 (by decide) dX12_readNext_155 ?_
                      refine g_zast C t345 rfl l346 (ix f328 (by decide) (by decide)) (iw (il 1) (by decide) (by decide)) dX12_readNext_159 (fun h379 hh378 => ?_)
                      have O380 := O341.pIa t345 ar_116101 hh378 rI_116101_0 (iw (il 1) (by decide) (by decide)) nofun
                      refine g_goto C 184 (by decide) dX12_readNext_160 ?_
                      refine GW.sub [2] rfl ?_
                      have e381 : Iv h379 a0 7 = v314 := ((pI_n hh378 (ne_tag e342 t345 (by decide))).trans ((pI_n hh339 (ne_tag e316 t331 (by decide))).trans e315))
                      have e382 : Iv h379 a0 8 = v318 := ((pI_n hh378 (ne_tag e342 t345 (by decide))).trans ((pI_n hh339 (ne_tag e316 t331 (by decide))).trans e319))
                      have e383 : Iv h379 a0 28 = v7 := ((pI_n hh378 (ne_tag e342 t345 (by decide))).trans ((pI_n hh339 (ne_tag e316 t331 (by decide))).trans e321))
                      have p384 := (TK_fx O341 ((Fx.rf (wr := [23220200]) (h := h340)).pIa t345 ar_116101 hh378 rfl) e342 rfl (TK_fx O309 ((Fx.rf (wr := [23420200]) (h := h306)).pIa t331 ar_117101 hh339 rfl) e316 rfl p322))
                      have p385 := ((NT_fx O341 ((Fx.rf (wr := [23220200]) (h := h340)).pIa t345 ar_116101 hh378 rfl) e342 rfl).trans ((NT_fx O309 ((Fx.rf (wr := [23420200]) (h := h306)).pIa t331 ar_117101 hh339 rfl) e316 rfl).trans p326))
                      have p386 := (MInv_fx O341 ((Fx.rf (wr := [23220200]) (h := h340)).pIa t345 ar_116101 hh378 rfl) e342 rfl (MInv_fx O309 ((Fx.rf (wr := [23420200]) (h := h306)).pIa t331 ar_117101 hh339 rfl) e316 rfl (MInv_fx O299 F310 e300 rfl (MInv_fx O290 ((Fx.rf (wr := [2407]) (h := h287)).pI e294 hh297 rfl) e294 rfl (MInv_fx O273 F291 e280 rfl (MInv_fx O256 F274 e263 rfl (MInv_fx O208 F257 e246 rfl (MInv_fx O191 F209 e198 rfl (MInv_fx O139 F192 e181 rfl (MInv_fx O87 F140 e129 rfl (MInv_fx O70 F88 e77 rfl (MInv_fx O F71 ta0 rfl P_MInv))))))))))))
                      have p387 := (DLf_fx O341 ((Fx.rf (wr := [23220200]) (h := h340)).pIa t345 ar_116101 hh378 rfl) e342 rfl (DLf_fx O309 ((Fx.rf (wr := [23420200]) (h := h306)).pIa t331 ar_117101 hh339 rfl) e316 rfl (DLf_mono O299 F310 e300 rfl p313.2.2 (DLf_fx O290 ((Fx.rf (wr := [2407]) (h := h287)).pI e294 hh297 rfl) e294 rfl (DLf_fx O273 F291 e280 rfl (DLf_fx O256 F274 e263 rfl (DLf_fx O208 F257 e246 rfl (DLf_fx O191 F209 e198 rfl (DLf_fx O139 F192 e181 rfl (DLf_fx O87 F140 e129 rfl (DLf_fx O70 F88 e77 rfl (DLf_fx O F71 ta0 rfl P_DLf))))))))))))
                      exact J18 _ O380 (((((((((((((Fx.rf (wr := [2407, 2408, 2428, 22420000, 22620400, 22820000, 23020000, 23220200, 23420200, 23620200, 23820000, 24020200, 24220000, 24420000, 24620000, 24820000, 25020000, 25220000, 25420000, 25820000, 26020000]) (h := h)).call F71 rfl).call F88 rfl).call F140 rfl).call F192 rfl).call F209 rfl).call F257 rfl).call F274 rfl).call F291 rfl).pI e294 hh297 rfl).call F310 rfl).pIa t331 ar_117101 hh339 rfl).pIa t345 ar_116101 hh378 rfl) ⟨p384, by rw [e381, p385]; omega, by rw [e382, e381, p385]; omega, by rw [e383, e381]; omega⟩ (by unfold ST; rw [e2, e381, e8, e383, e5, e382]; omega) p386 p387
                · have f388 : (0 : Int) ≤ v333 ∧ v333 ≤ (0 : Int) := ii f335 (r_eq (il 0) q337) (by decide) (by decide)
                  refine g_iload_n C rfl 1 rfl dX12_readNext_126 ?_
                  refine g_if_eq C (iw f292 (by decide) (by decide)) 134 (by decide) dX12_readNext_127 (fun q389 => ?_) (fun q390 => ?_)
                  · have f391 : (0 : Int) ≤ r286 ∧ r286 ≤ (0 : Int) := ii f292 (r_eq (il 0) q389) (by decide) (by decide)
                    refine g_iconst C dX12_readNext_134 ?_
                    refine g_zast C t331 rfl l332 (ix f328 (by decide) (by decide)) (iw (il 0) (by decide) (by decide)) dX12_readNext_135 (fun h393 hh392 => ?_)
                    have O394 := O309.pIa t331 ar_117101 hh392 rI_117101_0 (iw (il 0) (by decide) (by decide)) nofun
                    refine g_aload_n C rfl 2 rfl dX12_readNext_136 ?_
                    have e395 : Tg h393 a0 = 12 := ((pIT hh392).trans e316)
                    obtain ⟨v396, e397⟩ : ∃ z, Rv h393 a0 16 = z := ⟨_, rfl⟩
                    have t398 := ok_R O394 e395 rE_12_16 e397
                    have l399 := ok_L O394 e395 rE_12_16 e397
                    refine gf_R C fk_LandSurveyModel_112 rfl e395 e397 dX12_readNext_137 ?_
                    refine g_iload_n C rfl 0 rfl dX12_readNext_140 ?_
                    refine g_aload_n C rfl 2 rfl dX12_readNext_141 ?_
                    refine gf_R C fk_LandSurveyModel_112 rfl e395 e397 dX12_readNext_142 ?_
                    refine g_iload_n C rfl 0 rfl dX12_readNext_145 ?_
                    obtain ⟨v400, e401⟩ : ∃ z, Iv h393 v396 ((80 + r305).toNat) = z := ⟨_, rfl⟩
                    have f402 := ok_Ia O394 t398 ar_116101 rI_116101_0 e401
                    refine g_zald C t398 rfl l399 (ix f328 (by decide) (by decide)) e401 dX12_readNext_146 ?_
                    refine g_if_ne C (iw f402 (by decide) (by decide)) 154 (by decide) dX12_readNext_147 (fun q403 => ?_) (fun q404 => ?_)
                    · have f405 : (1 : Int) ≤ v400 ∧ v400 ≤ (1 : Int) := r_nl f402 q403
                      refine g_iconst C dX12_readNext_154 ?_
                      refine g_goto C 159 (by decide) dX12_readNext_155 ?_
                      refine g_zast C t398 rfl l399 (ix f328 (by decide) (by decide)) (iw (il 1) (by decide) (by decide)) dX12_readNext_159 (fun h407 hh406 => ?_)
                      have O408 := O394.pIa t398 ar_116101 hh406 rI_116101_0 (iw (il 1) (by decide) (by decide)) nofun
                      refine g_goto C 184 (by decide) dX12_readNext_160 ?_
                      refine GW.sub [2] rfl ?_
                      have e409 : Iv h407 a0 7 = v314 := ((pI_n hh406 (ne_tag e395 t398 (by decide))).trans ((pI_n hh392 (ne_tag e316 t331 (by decide))).trans e315))
                      have e410 : Iv h407 a0 8 = v318 := ((pI_n hh406 (ne_tag e395 t398 (by decide))).trans ((pI_n hh392 (ne_tag e316 t331 (by decide))).trans e319))
                      have e411 : Iv h407 a0 28 = v7 := ((pI_n hh406 (ne_tag e395 t398 (by decide))).trans ((pI_n hh392 (ne_tag e316 t331 (by decide))).trans e321))
                      have p412 := (TK_fx O394 ((Fx.rf (wr := [23220200]) (h := h393)).pIa t398 ar_116101 hh406 rfl) e395 rfl (TK_fx O309 ((Fx.rf (wr := [23420200]) (h := h306)).pIa t331 ar_117101 hh392 rfl) e316 rfl p322))
                      have p413 := ((NT_fx O394 ((Fx.rf (wr := [23220200]) (h := h393)).pIa t398 ar_116101 hh406 rfl) e395 rfl).trans ((NT_fx O309 ((Fx.rf (wr := [23420200]) (h := h306)).pIa t331 ar_117101 hh392 rfl) e316 rfl).trans p326))
                      have p414 := (MInv_fx O394 ((Fx.rf (wr := [23220200]) (h := h393)).pIa t398 ar_116101 hh406 rfl) e395 rfl (MInv_fx O309 ((Fx.rf (wr := [23420200]) (h := h306)).pIa t331 ar_117101 hh392 rfl) e316 rfl (MInv_fx O299 F310 e300 rfl (MInv_fx O290 ((Fx.rf (wr := [2407]) (h := h287)).pI e294 hh297 rfl) e294 rfl (MInv_fx O273 F291 e280 rfl (MInv_fx O256 F274 e263 rfl (MInv_fx O208 F257 e246 rfl (MInv_fx O191 F209 e198 rfl (MInv_fx O139 F192 e181 rfl (MInv_fx O87 F140 e129 rfl (MInv_fx O70 F88 e77 rfl (MInv_fx O F71 ta0 rfl P_MInv))))))))))))
                      have p415 := (DLf_fx O394 ((Fx.rf (wr := [23220200]) (h := h393)).pIa t398 ar_116101 hh406 rfl) e395 rfl (DLf_fx O309 ((Fx.rf (wr := [23420200]) (h := h306)).pIa t331 ar_117101 hh392 rfl) e316 rfl (DLf_mono O299 F310 e300 rfl p313.2.2 (DLf_fx O290 ((Fx.rf (wr := [2407]) (h := h287)).pI e294 hh297 rfl) e294 rfl (DLf_fx O273 F291 e280 rfl (DLf_fx O256 F274 e263 rfl (DLf_fx O208 F257 e246 rfl (DLf_fx O191 F209 e198 rfl (DLf_fx O139 F192 e181 rfl (DLf_fx O87 F140 e129 rfl (DLf_fx O70 F88 e77 rfl (DLf_fx O F71 ta0 rfl P_DLf))))))))))))
                      exact J18 _ O408 (((((((((((((Fx.rf (wr := [2407, 2408, 2428, 22420000, 22620400, 22820000, 23020000, 23220200, 23420200, 23620200, 23820000, 24020200, 24220000, 24420000, 24620000, 24820000, 25020000, 25220000, 25420000, 25820000, 26020000]) (h := h)).call F71 rfl).call F88 rfl).call F140 rfl).call F192 rfl).call F209 rfl).call F257 rfl).call F274 rfl).call F291 rfl).pI e294 hh297 rfl).call F310 rfl).pIa t331 ar_117101 hh392 rfl).pIa t398 ar_116101 hh406 rfl) ⟨p412, by rw [e409, p413]; omega, by rw [e410, e409, p413]; omega, by rw [e411, e409]; omega⟩ (by unfold ST; rw [e2, e409, e8, e411, e5, e410]; omega) p414 p415
                    · have f416 : (0 : Int) ≤ v400 ∧ v400 ≤ (0 : Int) := ii f402 (r_eq (il 0) q404) (by decide) (by decide)
                      refine g_iload_n C rfl 1 rfl dX12_readNext_150 ?_
                      refine g_if_ne C (iw f391 (by decide) (by decide)) 158 (by decide) dX12_readNext_151 (fun q417 => ?_) (fun q418 => ?_)
                      · exact (no_ne f391 (il 0) q417 (by decide)).elim
                      · refine g_iconst C dX12_readNext_154 ?_
                        refine g_goto C 159 (by decide) dX12_readNext_155 ?_
                        refine g_zast C t398 rfl l399 (ix f328 (by decide) (by decide)) (iw (il 1) (by decide) (by decide)) dX12_readNext_159 (fun h420 hh419 => ?_)
                        have O421 := O394.pIa t398 ar_116101 hh419 rI_116101_0 (iw (il 1) (by decide) (by decide)) nofun
                        refine g_goto C 184 (by decide) dX12_readNext_160 ?_
                        refine GW.sub [2] rfl ?_
                        have e422 : Iv h420 a0 7 = v314 := ((pI_n hh419 (ne_tag e395 t398 (by decide))).trans ((pI_n hh392 (ne_tag e316 t331 (by decide))).trans e315))
                        have e423 : Iv h420 a0 8 = v318 := ((pI_n hh419 (ne_tag e395 t398 (by decide))).trans ((pI_n hh392 (ne_tag e316 t331 (by decide))).trans e319))
                        have e424 : Iv h420 a0 28 = v7 := ((pI_n hh419 (ne_tag e395 t398 (by decide))).trans ((pI_n hh392 (ne_tag e316 t331 (by decide))).trans e321))
                        have p425 := (TK_fx O394 ((Fx.rf (wr := [23220200]) (h := h393)).pIa t398 ar_116101 hh419 rfl) e395 rfl (TK_fx O309 ((Fx.rf (wr := [23420200]) (h := h306)).pIa t331 ar_117101 hh392 rfl) e316 rfl p322))
                        have p426 := ((NT_fx O394 ((Fx.rf (wr := [23220200]) (h := h393)).pIa t398 ar_116101 hh419 rfl) e395 rfl).trans ((NT_fx O309 ((Fx.rf (wr := [23420200]) (h := h306)).pIa t331 ar_117101 hh392 rfl) e316 rfl).trans p326))
                        have p427 := (MInv_fx O394 ((Fx.rf (wr := [23220200]) (h := h393)).pIa t398 ar_116101 hh419 rfl) e395 rfl (MInv_fx O309 ((Fx.rf (wr := [23420200]) (h := h306)).pIa t331 ar_117101 hh392 rfl) e316 rfl (MInv_fx O299 F310 e300 rfl (MInv_fx O290 ((Fx.rf (wr := [2407]) (h := h287)).pI e294 hh297 rfl) e294 rfl (MInv_fx O273 F291 e280 rfl (MInv_fx O256 F274 e263 rfl (MInv_fx O208 F257 e246 rfl (MInv_fx O191 F209 e198 rfl (MInv_fx O139 F192 e181 rfl (MInv_fx O87 F140 e129 rfl (MInv_fx O70 F88 e77 rfl (MInv_fx O F71 ta0 rfl P_MInv))))))))))))
                        have p428 := (DLf_fx O394 ((Fx.rf (wr := [23220200]) (h := h393)).pIa t398 ar_116101 hh419 rfl) e395 rfl (DLf_fx O309 ((Fx.rf (wr := [23420200]) (h := h306)).pIa t331 ar_117101 hh392 rfl) e316 rfl (DLf_mono O299 F310 e300 rfl p313.2.2 (DLf_fx O290 ((Fx.rf (wr := [2407]) (h := h287)).pI e294 hh297 rfl) e294 rfl (DLf_fx O273 F291 e280 rfl (DLf_fx O256 F274 e263 rfl (DLf_fx O208 F257 e246 rfl (DLf_fx O191 F209 e198 rfl (DLf_fx O139 F192 e181 rfl (DLf_fx O87 F140 e129 rfl (DLf_fx O70 F88 e77 rfl (DLf_fx O F71 ta0 rfl P_DLf))))))))))))
                        exact J18 _ O421 (((((((((((((Fx.rf (wr := [2407, 2408, 2428, 22420000, 22620400, 22820000, 23020000, 23220200, 23420200, 23620200, 23820000, 24020200, 24220000, 24420000, 24620000, 24820000, 25020000, 25220000, 25420000, 25820000, 26020000]) (h := h)).call F71 rfl).call F88 rfl).call F140 rfl).call F192 rfl).call F209 rfl).call F257 rfl).call F274 rfl).call F291 rfl).pI e294 hh297 rfl).call F310 rfl).pIa t331 ar_117101 hh392 rfl).pIa t398 ar_116101 hh419 rfl) ⟨p425, by rw [e422, p426]; omega, by rw [e423, e422, p426]; omega, by rw [e424, e422]; omega⟩ (by unfold ST; rw [e2, e422, e8, e424, e5, e423]; omega) p427 p428
                  · have f429 : (1 : Int) ≤ r286 ∧ r286 ≤ (1 : Int) := r_nl f292 q390
                    refine g_iconst C dX12_readNext_130 ?_
                    refine g_goto C 135 (by decide) dX12_readNext_131 ?_
                    refine g_zast C t331 rfl l332 (ix f328 (by decide) (by decide)) (iw (il 1) (by decide) (by decide)) dX12_readNext_135 (fun h431 hh430 => ?_)
                    have O432 := O309.pIa t331 ar_117101 hh430 rI_117101_0 (iw (il 1) (by decide) (by decide)) nofun
                    refine g_aload_n C rfl 2 rfl dX12_readNext_136 ?_
                    have e433 : Tg h431 a0 = 12 := ((pIT hh430).trans e316)
                    obtain ⟨v434, e435⟩ : ∃ z, Rv h431 a0 16 = z := ⟨_, rfl⟩
                    have t436 := ok_R O432 e433 rE_12_16 e435
                    have l437 := ok_L O432 e433 rE_12_16 e435
                    refine gf_R C fk_LandSurveyModel_112 rfl e433 e435 dX12_readNext_137 ?_
                    refine g_iload_n C rfl 0 rfl dX12_readNext_140 ?_
                    refine g_aload_n C rfl 2 rfl dX12_readNext_141 ?_
                    refine gf_R C fk_LandSurveyModel_112 rfl e433 e435 dX12_readNext_142 ?_
                    refine g_iload_n C rfl 0 rfl dX12_readNext_145 ?_
                    obtain ⟨v438, e439⟩ : ∃ z, Iv h431 v434 ((80 + r305).toNat) = z := ⟨_, rfl⟩
                    have f440 := ok_Ia O432 t436 ar_116101 rI_116101_0 e439
                    refine g_zald C t436 rfl l437 (ix f328 (by decide) (by decide)) e439 dX12_readNext_146 ?_
                    refine g_if_ne C (iw f440 (by decide) (by decide)) 154 (by decide) dX12_readNext_147 (fun q441 => ?_) (fun q442 => ?_)
                    · have f443 : (1 : Int) ≤ v438 ∧ v438 ≤ (1 : Int) := r_nl f440 q441
                      refine g_iconst C dX12_readNext_154 ?_
                      refine g_goto C 159 (by decide) dX12_readNext_155 ?_
                      refine g_zast C t436 rfl l437 (ix f328 (by decide) (by decide)) (iw (il 1) (by decide) (by decide)) dX12_readNext_159 (fun h445 hh444 => ?_)
                      have O446 := O432.pIa t436 ar_116101 hh444 rI_116101_0 (iw (il 1) (by decide) (by decide)) nofun
                      refine g_goto C 184 (by decide) dX12_readNext_160 ?_
                      refine GW.sub [2] rfl ?_
                      have e447 : Iv h445 a0 7 = v314 := ((pI_n hh444 (ne_tag e433 t436 (by decide))).trans ((pI_n hh430 (ne_tag e316 t331 (by decide))).trans e315))
                      have e448 : Iv h445 a0 8 = v318 := ((pI_n hh444 (ne_tag e433 t436 (by decide))).trans ((pI_n hh430 (ne_tag e316 t331 (by decide))).trans e319))
                      have e449 : Iv h445 a0 28 = v7 := ((pI_n hh444 (ne_tag e433 t436 (by decide))).trans ((pI_n hh430 (ne_tag e316 t331 (by decide))).trans e321))
                      have p450 := (TK_fx O432 ((Fx.rf (wr := [23220200]) (h := h431)).pIa t436 ar_116101 hh444 rfl) e433 rfl (TK_fx O309 ((Fx.rf (wr := [23420200]) (h := h306)).pIa t331 ar_117101 hh430 rfl) e316 rfl p322))
                      have p451 := ((NT_fx O432 ((Fx.rf (wr := [23220200]) (h := h431)).pIa t436 ar_116101 hh444 rfl) e433 rfl).trans ((NT_fx O309 ((Fx.rf (wr := [23420200]) (h := h306)).pIa t331 ar_117101 hh430 rfl) e316 rfl).trans p326))
                      have p452 := (MInv_fx O432 ((Fx.rf (wr := [23220200]) (h := h431)).pIa t436 ar_116101 hh444 rfl) e433 rfl (MInv_fx O309 ((Fx.rf (wr := [23420200]) (h := h306)).pIa t331 ar_117101 hh430 rfl) e316 rfl (MInv_fx O299 F310 e300 rfl (MInv_fx O290 ((Fx.rf (wr := [2407]) (h := h287)).pI e294 hh297 rfl) e294 rfl (MInv_fx O273 F291 e280 rfl (MInv_fx O256 F274 e263 rfl (MInv_fx O208 F257 e246 rfl (MInv_fx O191 F209 e198 rfl (MInv_fx O139 F192 e181 rfl (MInv_fx O87 F140 e129 rfl (MInv_fx O70 F88 e77 rfl (MInv_fx O F71 ta0 rfl P_MInv))))))))))))
                      have p453 := (DLf_fx O432 ((Fx.rf (wr := [23220200]) (h := h431)).pIa t436 ar_116101 hh444 rfl) e433 rfl (DLf_fx O309 ((Fx.rf (wr := [23420200]) (h := h306)).pIa t331 ar_117101 hh430 rfl) e316 rfl (DLf_mono O299 F310 e300 rfl p313.2.2 (DLf_fx O290 ((Fx.rf (wr := [2407]) (h := h287)).pI e294 hh297 rfl) e294 rfl (DLf_fx O273 F291 e280 rfl (DLf_fx O256 F274 e263 rfl (DLf_fx O208 F257 e246 rfl (DLf_fx O191 F209 e198 rfl (DLf_fx O139 F192 e181 rfl (DLf_fx O87 F140 e129 rfl (DLf_fx O70 F88 e77 rfl (DLf_fx O F71 ta0 rfl P_DLf))))))))))))
                      exact J18 _ O446 (((((((((((((Fx.rf (wr := [2407, 2408, 2428, 22420000, 22620400, 22820000, 23020000, 23220200, 23420200, 23620200, 23820000, 24020200, 24220000, 24420000, 24620000, 24820000, 25020000, 25220000, 25420000, 25820000, 26020000]) (h := h)).call F71 rfl).call F88 rfl).call F140 rfl).call F192 rfl).call F209 rfl).call F257 rfl).call F274 rfl).call F291 rfl).pI e294 hh297 rfl).call F310 rfl).pIa t331 ar_117101 hh430 rfl).pIa t436 ar_116101 hh444 rfl) ⟨p450, by rw [e447, p451]; omega, by rw [e448, e447, p451]; omega, by rw [e449, e447]; omega⟩ (by unfold ST; rw [e2, e447, e8, e449, e5, e448]; omega) p452 p453
                    · have f454 : (0 : Int) ≤ v438 ∧ v438 ≤ (0 : Int) := ii f440 (r_eq (il 0) q442) (by decide) (by decide)
                      refine g_iload_n C rfl 1 rfl dX12_readNext_150 ?_
                      refine g_if_ne C (iw f429 (by decide) (by decide)) 158 (by decide) dX12_readNext_151 (fun q455 => ?_) (fun q456 => ?_)
                      · refine g_iconst C dX12_readNext_158 ?_
                        refine g_zast C t436 rfl l437 (ix f328 (by decide) (by decide)) (iw (il 0) (by decide) (by decide)) dX12_readNext_159 (fun h458 hh457 => ?_)
                        have O459 := O432.pIa t436 ar_116101 hh457 rI_116101_0 (iw (il 0) (by decide) (by decide)) nofun
                        refine g_goto C 184 (by decide) dX12_readNext_160 ?_
                        refine GW.sub [2] rfl ?_
                        have e460 : Iv h458 a0 7 = v314 := ((pI_n hh457 (ne_tag e433 t436 (by decide))).trans ((pI_n hh430 (ne_tag e316 t331 (by decide))).trans e315))
                        have e461 : Iv h458 a0 8 = v318 := ((pI_n hh457 (ne_tag e433 t436 (by decide))).trans ((pI_n hh430 (ne_tag e316 t331 (by decide))).trans e319))
                        have e462 : Iv h458 a0 28 = v7 := ((pI_n hh457 (ne_tag e433 t436 (by decide))).trans ((pI_n hh430 (ne_tag e316 t331 (by decide))).trans e321))
                        have p463 := (TK_fx O432 ((Fx.rf (wr := [23220200]) (h := h431)).pIa t436 ar_116101 hh457 rfl) e433 rfl (TK_fx O309 ((Fx.rf (wr := [23420200]) (h := h306)).pIa t331 ar_117101 hh430 rfl) e316 rfl p322))
                        have p464 := ((NT_fx O432 ((Fx.rf (wr := [23220200]) (h := h431)).pIa t436 ar_116101 hh457 rfl) e433 rfl).trans ((NT_fx O309 ((Fx.rf (wr := [23420200]) (h := h306)).pIa t331 ar_117101 hh430 rfl) e316 rfl).trans p326))
                        have p465 := (MInv_fx O432 ((Fx.rf (wr := [23220200]) (h := h431)).pIa t436 ar_116101 hh457 rfl) e433 rfl (MInv_fx O309 ((Fx.rf (wr := [23420200]) (h := h306)).pIa t331 ar_117101 hh430 rfl) e316 rfl (MInv_fx O299 F310 e300 rfl (MInv_fx O290 ((Fx.rf (wr := [2407]) (h := h287)).pI e294 hh297 rfl) e294 rfl (MInv_fx O273 F291 e280 rfl (MInv_fx O256 F274 e263 rfl (MInv_fx O208 F257 e246 rfl (MInv_fx O191 F209 e198 rfl (MInv_fx O139 F192 e181 rfl (MInv_fx O87 F140 e129 rfl (MInv_fx O70 F88 e77 rfl (MInv_fx O F71 ta0 rfl P_MInv))))))))))))
                        have p466 := (DLf_fx O432 ((Fx.rf (wr := [23220200]) (h := h431)).pIa t436 ar_116101 hh457 rfl) e433 rfl (DLf_fx O309 ((Fx.rf (wr := [23420200]) (h := h306)).pIa t331 ar_117101 hh430 rfl) e316 rfl (DLf_mono O299 F310 e300 rfl p313.2.2 (DLf_fx O290 ((Fx.rf (wr := [2407]) (h := h287)).pI e294 hh297 rfl) e294 rfl (DLf_fx O273 F291 e280 rfl (DLf_fx O256 F274 e263 rfl (DLf_fx O208 F257 e246 rfl (DLf_fx O191 F209 e198 rfl (DLf_fx O139 F192 e181 rfl (DLf_fx O87 F140 e129 rfl (DLf_fx O70 F88 e77 rfl (DLf_fx O F71 ta0 rfl P_DLf))))))))))))
                        exact J18 _ O459 (((((((((((((Fx.rf (wr := [2407, 2408, 2428, 22420000, 22620400, 22820000, 23020000, 23220200, 23420200, 23620200, 23820000, 24020200, 24220000, 24420000, 24620000, 24820000, 25020000, 25220000, 25420000, 25820000, 26020000]) (h := h)).call F71 rfl).call F88 rfl).call F140 rfl).call F192 rfl).call F209 rfl).call F257 rfl).call F274 rfl).call F291 rfl).pI e294 hh297 rfl).call F310 rfl).pIa t331 ar_117101 hh430 rfl).pIa t436 ar_116101 hh457 rfl) ⟨p463, by rw [e460, p464]; omega, by rw [e461, e460, p464]; omega, by rw [e462, e460]; omega⟩ (by unfold ST; rw [e2, e460, e8, e462, e5, e461]; omega) p465 p466
                      · exact (no_eq f429 (il 0) q456 (by decide)).elim
              · have f467 : (0 : Int) ≤ r269 ∧ r269 ≤ (0 : Int) := ii f275 (r_eq (il 0) q278) (by decide) (by decide)
                refine g_aload_n C rfl 0 rfl dX12_readNext_78 ?_
                refine g_bipush C (by decide) dX12_readNext_79 ?_
                have e468 : Tg h270 a0 = 12 := (fxT F274 e263)
                have e469 : Iv h270 a0 7 = v1 := ((fxI F274 e263 rfl).trans e264)
                have e470 : Iv h270 a0 8 = v4 := ((fxI F274 e263 rfl).trans e265)
                have e471 : Iv h270 a0 28 = v7 := ((fxI F274 e263 rfl).trans e266)
                have p472 := (TK_fx O256 F274 e263 rfl p267)
                have p473 := ((NT_fx O256 F274 e263 rfl).trans p268)
                refine g_callI (st := []) (gc_V C lk_LandSurveyModel_330 (k1_isWord l D cy w z0 O273 e468 (iw (il 7) (by decide) (by decide)) ⟨p472, by rw [e469, p473]; omega, by rw [e470, e469, p473]; omega, by rw [e471, e469]; omega⟩) e468 rfl rfl rfl ⟨by decide, by decide⟩ (Nat.le_of_ble_eq_true rfl) dX12_readNext_81 ⟨(by decide), (by decide)⟩) (fun r474 h475 f477 K476 => ?_)
                obtain ⟨O478, F479, f480, p481⟩ := K476
                rw [e470, e469, p473] at p481
                refine g_if_eq C (iw f480 (by decide) (by decide)) 163 (by decide) dX12_readNext_84 (fun q482 => ?_) (fun q483 => ?_)
                · have f484 : (0 : Int) ≤ r474 ∧ r474 ≤ (0 : Int) := ii f480 (r_eq (il 0) q482) (by decide) (by decide)
                  refine g_aload_n C rfl 0 rfl dX12_readNext_163 ?_
                  refine g_bipush C (by decide) dX12_readNext_164 ?_
                  have e485 : Tg h475 a0 = 12 := (fxT F479 e468)
                  have e486 : Iv h475 a0 7 = v1 := ((fxI F479 e468 rfl).trans e469)
                  have e487 : Iv h475 a0 8 = v4 := ((fxI F479 e468 rfl).trans e470)
                  have e488 : Iv h475 a0 28 = v7 := ((fxI F479 e468 rfl).trans e471)
                  have p489 := (TK_fx O273 F479 e468 rfl p472)
                  have p490 := ((NT_fx O273 F479 e468 rfl).trans p473)
                  refine g_callI (st := []) (gc_V C lk_LandSurveyModel_330 (k1_isWord l D cy w z0 O478 e485 (iw (il 8) (by decide) (by decide)) ⟨p489, by rw [e486, p490]; omega, by rw [e487, e486, p490]; omega, by rw [e488, e486]; omega⟩) e485 rfl rfl rfl ⟨by decide, by decide⟩ (Nat.le_of_ble_eq_true rfl) dX12_readNext_166 ⟨(by decide), (by decide)⟩) (fun r491 h492 f494 K493 => ?_)
                  obtain ⟨O495, F496, f497, p498⟩ := K493
                  rw [e487, e486, p490] at p498
                  refine g_if_eq C (iw f497 (by decide) (by decide)) 179 (by decide) dX12_readNext_169 (fun q499 => ?_) (fun q500 => ?_)
                  · have f501 : (0 : Int) ≤ r491 ∧ r491 ≤ (0 : Int) := ii f497 (r_eq (il 0) q499) (by decide) (by decide)
                    refine g_aload_n C rfl 0 rfl dX12_readNext_179 ?_
                    refine g_iconst C dX12_readNext_180 ?_
                    have e502 : Tg h492 a0 = 12 := (fxT F496 e485)
                    refine g_callV (st := []) (gc_V C lk_LandSurveyModel_326 (k_X12_wrong l D cy w z0 O495 e502 (iw (il 1) (by decide) (by decide))) e502 rfl rfl rfl ⟨by decide, by decide⟩ (Nat.le_of_ble_eq_true rfl) dX12_readNext_181 ⟨(by decide), (by decide)⟩) (fun h504 K505 => ?_)
                    obtain ⟨O507, F508, p509⟩ := K505
                    obtain ⟨v510, e511⟩ : ∃ z, Iv h504 a0 8 = z := ⟨_, rfl⟩
                    have e512 : Tg h504 a0 = 12 := (fxT F508 e502)
                    have f513 := ok_I O507 e512 rI_12_8 e511
                    rw [e511] at p509
                    have f514 : (1 : Int) ≤ v510 ∧ v510 ≤ (24005 : Int) := by omega
                    refine GW.sub [0] rfl ?_
                    have e515 : Iv h504 a0 7 = v1 := ((fxI F508 e502 rfl).trans ((fxI F496 e485 rfl).trans e486))
                    have e516 : Iv h504 a0 28 = v7 := ((fxI F508 e502 rfl).trans ((fxI F496 e485 rfl).trans e488))
                    have p517 := (TK_fx O495 F508 e502 rfl (TK_fx O478 F496 e485 rfl p489))
                    have p518 := ((NT_fx O495 F508 e502 rfl).trans ((NT_fx O478 F496 e485 rfl).trans p490))
                    have p519 := (MInv_fx O495 F508 e502 rfl (MInv_fx O478 F496 e485 rfl (MInv_fx O273 F479 e468 rfl (MInv_fx O256 F274 e263 rfl (MInv_fx O208 F257 e246 rfl (MInv_fx O191 F209 e198 rfl (MInv_fx O139 F192 e181 rfl (MInv_fx O87 F140 e129 rfl (MInv_fx O70 F88 e77 rfl (MInv_fx O F71 ta0 rfl P_MInv))))))))))
                    exact J18 _ O507 (((((((((((Fx.rf (wr := [2407, 2408, 2428, 22420000, 22620400, 22820000, 23020000, 23220200, 23420200, 23620200, 23820000, 24020200, 24220000, 24420000, 24620000, 24820000, 25020000, 25220000, 25420000, 25820000, 26020000]) (h := h)).call F71 rfl).call F88 rfl).call F140 rfl).call F192 rfl).call F209 rfl).call F257 rfl).call F274 rfl).call F479 rfl).call F496 rfl).call F508 rfl) ⟨p517, by rw [e515, p518]; omega, by rw [e511, e515, p518]; omega, by rw [e516, e515]; omega⟩ (by unfold ST; rw [e2, e515, e8, e516, e5, e511]; omega) p519 (fun z => by rw [e511] at z; omega)
                  · have f520 : (1 : Int) ≤ r491 ∧ r491 ≤ (1 : Int) := r_nl f497 q500
                    refine g_aload_n C rfl 0 rfl dX12_readNext_172 ?_
                    have e521 : Tg h492 a0 = 12 := (fxT F496 e485)
                    have e522 : Iv h492 a0 7 = v1 := ((fxI F496 e485 rfl).trans e486)
                    have e523 : Iv h492 a0 8 = v4 := ((fxI F496 e485 rfl).trans e487)
                    have e524 : Iv h492 a0 28 = v7 := ((fxI F496 e485 rfl).trans e488)
                    have p525 := (TK_fx O478 F496 e485 rfl p489)
                    have p526 := ((NT_fx O478 F496 e485 rfl).trans p490)
                    refine g_callV (st := []) (gc_V C lk_LandSurveyModel_377 (k_X12_readRemain l D cy w z0 O495 e521 ⟨p525, by rw [e522, p526]; omega, by rw [e523, e522, p526]; omega, by rw [e524, e522]; omega⟩ (by rw [e523, e522, p526]; omega)) e521 rfl rfl rfl ⟨by decide, by decide⟩ (Nat.le_of_ble_eq_true rfl) dX12_readNext_173 ⟨(by decide), (by decide)⟩) (fun h528 K529 => ?_)
                    obtain ⟨O531, F532, p533, p534⟩ := K529
                    obtain ⟨v535, e536⟩ : ∃ z, Iv h528 a0 7 = z := ⟨_, rfl⟩
                    have e537 : Tg h528 a0 = 12 := (fxT F532 e521)
                    have f538 := ok_I O531 e537 rI_12_7 e536
                    obtain ⟨v539, e540⟩ : ∃ z, Iv h528 a0 8 = z := ⟨_, rfl⟩
                    have f541 := ok_I O531 e537 rI_12_8 e540
                    have e542 : Iv h528 a0 28 = v7 := ((fxI F532 e521 rfl).trans e524)
                    obtain ⟨p543, p544, p545, p546⟩ := p533
                    have p547 := ((NT_fx O495 F532 e521 rfl).trans p526)
                    rw [e536, p547] at p544
                    rw [e540, e536, p547] at p545
                    rw [e542, e536] at p546
                    have p548 := p534
                    unfold ST at p548
                    rw [e522, e536, e524, e542, e523, e540] at p548
                    refine g_goto C 184 (by decide) dX12_readNext_176 ?_
                    refine GW.sub [0] rfl ?_
                    have p549 := (MInv_fx O495 F532 e521 rfl (MInv_fx O478 F496 e485 rfl (MInv_fx O273 F479 e468 rfl (MInv_fx O256 F274 e263 rfl (MInv_fx O208 F257 e246 rfl (MInv_fx O191 F209 e198 rfl (MInv_fx O139 F192 e181 rfl (MInv_fx O87 F140 e129 rfl (MInv_fx O70 F88 e77 rfl (MInv_fx O F71 ta0 rfl P_MInv))))))))))
                    have p550 := (DLf_mono O495 F532 e521 rfl p534.2.2 (DLf_fx O478 F496 e485 rfl (DLf_fx O273 F479 e468 rfl (DLf_fx O256 F274 e263 rfl (DLf_fx O208 F257 e246 rfl (DLf_fx O191 F209 e198 rfl (DLf_fx O139 F192 e181 rfl (DLf_fx O87 F140 e129 rfl (DLf_fx O70 F88 e77 rfl (DLf_fx O F71 ta0 rfl P_DLf))))))))))
                    exact J18 _ O531 (((((((((((Fx.rf (wr := [2407, 2408, 2428, 22420000, 22620400, 22820000, 23020000, 23220200, 23420200, 23620200, 23820000, 24020200, 24220000, 24420000, 24620000, 24820000, 25020000, 25220000, 25420000, 25820000, 26020000]) (h := h)).call F71 rfl).call F88 rfl).call F140 rfl).call F192 rfl).call F209 rfl).call F257 rfl).call F274 rfl).call F479 rfl).call F496 rfl).call F532 rfl) ⟨p543, by rw [e536, p547]; omega, by rw [e540, e536, p547]; omega, by rw [e542, e536]; omega⟩ (by unfold ST; rw [e2, e536, e8, e542, e5, e540]; omega) p549 p550
                · have f551 : (1 : Int) ≤ r474 ∧ r474 ≤ (1 : Int) := r_nl f480 q483
                  refine g_aload_n C rfl 0 rfl dX12_readNext_87 ?_
                  refine g_bipush C (by decide) dX12_readNext_88 ?_
                  have e552 : Tg h475 a0 = 12 := (fxT F479 e468)
                  have e553 : Iv h475 a0 7 = v1 := ((fxI F479 e468 rfl).trans e469)
                  have e554 : Iv h475 a0 8 = v4 := ((fxI F479 e468 rfl).trans e470)
                  have e555 : Iv h475 a0 28 = v7 := ((fxI F479 e468 rfl).trans e471)
                  have p556 := (TK_fx O273 F479 e468 rfl p472)
                  have p557 := ((NT_fx O273 F479 e468 rfl).trans p473)
                  refine g_callI (st := []) (gc_V C lk_LandSurveyModel_330 (k1_isWord l D cy w z0 O478 e552 (iw (il 7) (by decide) (by decide)) ⟨p556, by rw [e553, p557]; omega, by rw [e554, e553, p557]; omega, by rw [e555, e553]; omega⟩) e552 rfl rfl rfl ⟨by decide, by decide⟩ (Nat.le_of_ble_eq_true rfl) dX12_readNext_90 ⟨(by decide), (by decide)⟩) (fun r558 h559 f561 K560 => ?_)
                  obtain ⟨O562, F563, f564, p565⟩ := K560
                  rw [e554, e553, p557] at p565
                  refine g_istore_n C [(1, .inl r558), (0, .inr (.inr a0))] rfl (by decide) rfl dX12_readNext_93 ?_
                  refine g_aload_n C rfl 1 rfl dX12_readNext_94 ?_
                  refine g_dup C rfl dX12_readNext_95 ?_
                  have e566 : Tg h559 a0 = 12 := (fxT F563 e552)
                  have e567 : Iv h559 a0 7 = v1 := ((fxI F563 e552 rfl).trans e553)
                  refine gf_I C fk_LandSurveyModel_317 rfl e566 e567 dX12_readNext_96 ?_
                  refine g_iconst C dX12_readNext_99 ?_
                  have f568 : (1 : Int) ≤ (v1 + 1) ∧ (v1 + 1) ≤ (1502 : Int) := ia_add f3 (il 1) (by decide) (by decide)
                  refine g_iadd C dX12_readNext_100 ?_
                  refine gp_I C fk_LandSurveyModel_317 pk_LandSurveyModel_7 rfl e566 (iw f568 (by decide) (by decide)) (nf_i _) dX12_readNext_101 (fun h570 hh569 => ?_)
                  have O571 := O562.pI e566 hh569 rI_12_7 (by omega) nofun
                  refine g_bipush C (by decide) dX12_readNext_104 ?_
                  refine g_aload_n C rfl 1 rfl dX12_readNext_106 ?_
                  have e572 : Tg h570 a0 = 12 := ((pIT hh569).trans e566)
                  have e573 : Iv h570 a0 8 = v4 := ((pI_j hh569 (by decide)).trans ((fxI F563 e552 rfl).trans e554))
                  have e574 : Iv h570 a0 28 = v7 := ((pI_j hh569 (by decide)).trans ((fxI F563 e552 rfl).trans e555))
                  have p575 := (TK_fx O562 ((Fx.rf (wr := [2407]) (h := h559)).pI e566 hh569 rfl) e566 rfl (TK_fx O478 F563 e552 rfl p556))
                  have p576 := ((NT_fx O562 ((Fx.rf (wr := [2407]) (h := h559)).pI e566 hh569 rfl) e566 rfl).trans ((NT_fx O478 F563 e552 rfl).trans p557))
                  refine g_callI (st := [.inl 80]) (gc_V C lk_LandSurveyModel_374 (k_X12_takeRock l D cy w z0 O571 e572 ⟨p575, by rw [(pI_e hh569), p576]; omega, by rw [e573, (pI_e hh569), p576]; omega, by rw [e574, (pI_e hh569)]; omega⟩) e572 rfl rfl rfl ⟨by decide, by decide⟩ (Nat.le_of_ble_eq_true rfl) dX12_readNext_107 ⟨(by decide), (by decide)⟩) (fun r577 h578 f580 K579 => ?_)
                  obtain ⟨O581, F582, f583, p584, p585⟩ := K579
                  obtain ⟨v586, e587⟩ : ∃ z, Iv h578 a0 7 = z := ⟨_, rfl⟩
                  have e588 : Tg h578 a0 = 12 := (fxT F582 e572)
                  have f589 := ok_I O581 e588 rI_12_7 e587
                  obtain ⟨v590, e591⟩ : ∃ z, Iv h578 a0 8 = z := ⟨_, rfl⟩
                  have f592 := ok_I O581 e588 rI_12_8 e591
                  have e593 : Iv h578 a0 28 = v7 := ((fxI F582 e572 rfl).trans e574)
                  obtain ⟨p594, p595, p596, p597⟩ := p584
                  have p598 := ((NT_fx O571 F582 e572 rfl).trans p576)
                  rw [e587, p598] at p595
                  rw [e591, e587, p598] at p596
                  rw [e593, e587] at p597
                  have p599 := p585
                  unfold ST at p599
                  rw [(pI_e hh569), e587, e574, e593, e573, e591] at p599
                  have f600 : (80 : Int) ≤ (80 + r577) ∧ (80 + r577) ≤ (89 : Int) := ia_add (il 80) f583 (by decide) (by decide)
                  refine g_iadd C dX12_readNext_110 ?_
                  refine g_istore_n C [(2, .inl (80 + r577)), (1, .inl r558), (0, .inr (.inr a0))] rfl (by decide) rfl dX12_readNext_111 ?_
                  refine g_aload_n C rfl 2 rfl dX12_readNext_112 ?_
                  obtain ⟨v601, e602⟩ : ∃ z, Rv h578 a0 17 = z := ⟨_, rfl⟩
                  have t603 := ok_R O581 e588 rE_12_17 e602
                  have l604 := ok_L O581 e588 rE_12_17 e602
                  refine gf_R C fk_LandSurveyModel_116 rfl e588 e602 dX12_readNext_113 ?_
                  refine g_iload_n C rfl 0 rfl dX12_readNext_116 ?_
                  refine g_aload_n C rfl 2 rfl dX12_readNext_117 ?_
                  refine gf_R C fk_LandSurveyModel_116 rfl e588 e602 dX12_readNext_118 ?_
                  refine g_iload_n C rfl 0 rfl dX12_readNext_121 ?_
                  obtain ⟨v605, e606⟩ : ∃ z, Iv h578 v601 ((80 + r577).toNat) = z := ⟨_, rfl⟩
                  have f607 := ok_Ia O581 t603 ar_117101 rI_117101_0 e606
                  refine g_zald C t603 rfl l604 (ix f600 (by decide) (by decide)) e606 dX12_readNext_122 ?_
                  refine g_if_ne C (iw f607 (by decide) (by decide)) 130 (by decide) dX12_readNext_123 (fun q608 => ?_) (fun q609 => ?_)
                  · have f610 : (1 : Int) ≤ v605 ∧ v605 ≤ (1 : Int) := r_nl f607 q608
                    refine g_iconst C dX12_readNext_130 ?_
                    refine g_goto C 135 (by decide) dX12_readNext_131 ?_
                    refine g_zast C t603 rfl l604 (ix f600 (by decide) (by decide)) (iw (il 1) (by decide) (by decide)) dX12_readNext_135 (fun h612 hh611 => ?_)
                    have O613 := O581.pIa t603 ar_117101 hh611 rI_117101_0 (iw (il 1) (by decide) (by decide)) nofun
                    refine g_aload_n C rfl 2 rfl dX12_readNext_136 ?_
                    have e614 : Tg h612 a0 = 12 := ((pIT hh611).trans e588)
                    obtain ⟨v615, e616⟩ : ∃ z, Rv h612 a0 16 = z := ⟨_, rfl⟩
                    have t617 := ok_R O613 e614 rE_12_16 e616
                    have l618 := ok_L O613 e614 rE_12_16 e616
                    refine gf_R C fk_LandSurveyModel_112 rfl e614 e616 dX12_readNext_137 ?_
                    refine g_iload_n C rfl 0 rfl dX12_readNext_140 ?_
                    refine g_aload_n C rfl 2 rfl dX12_readNext_141 ?_
                    refine gf_R C fk_LandSurveyModel_112 rfl e614 e616 dX12_readNext_142 ?_
                    refine g_iload_n C rfl 0 rfl dX12_readNext_145 ?_
                    obtain ⟨v619, e620⟩ : ∃ z, Iv h612 v615 ((80 + r577).toNat) = z := ⟨_, rfl⟩
                    have f621 := ok_Ia O613 t617 ar_116101 rI_116101_0 e620
                    refine g_zald C t617 rfl l618 (ix f600 (by decide) (by decide)) e620 dX12_readNext_146 ?_
                    refine g_if_ne C (iw f621 (by decide) (by decide)) 154 (by decide) dX12_readNext_147 (fun q622 => ?_) (fun q623 => ?_)
                    · have f624 : (1 : Int) ≤ v619 ∧ v619 ≤ (1 : Int) := r_nl f621 q622
                      refine g_iconst C dX12_readNext_154 ?_
                      refine g_goto C 159 (by decide) dX12_readNext_155 ?_
                      refine g_zast C t617 rfl l618 (ix f600 (by decide) (by decide)) (iw (il 1) (by decide) (by decide)) dX12_readNext_159 (fun h626 hh625 => ?_)
                      have O627 := O613.pIa t617 ar_116101 hh625 rI_116101_0 (iw (il 1) (by decide) (by decide)) nofun
                      refine g_goto C 184 (by decide) dX12_readNext_160 ?_
                      refine GW.sub [2] rfl ?_
                      have e628 : Iv h626 a0 7 = v586 := ((pI_n hh625 (ne_tag e614 t617 (by decide))).trans ((pI_n hh611 (ne_tag e588 t603 (by decide))).trans e587))
                      have e629 : Iv h626 a0 8 = v590 := ((pI_n hh625 (ne_tag e614 t617 (by decide))).trans ((pI_n hh611 (ne_tag e588 t603 (by decide))).trans e591))
                      have e630 : Iv h626 a0 28 = v7 := ((pI_n hh625 (ne_tag e614 t617 (by decide))).trans ((pI_n hh611 (ne_tag e588 t603 (by decide))).trans e593))
                      have p631 := (TK_fx O613 ((Fx.rf (wr := [23220200]) (h := h612)).pIa t617 ar_116101 hh625 rfl) e614 rfl (TK_fx O581 ((Fx.rf (wr := [23420200]) (h := h578)).pIa t603 ar_117101 hh611 rfl) e588 rfl p594))
                      have p632 := ((NT_fx O613 ((Fx.rf (wr := [23220200]) (h := h612)).pIa t617 ar_116101 hh625 rfl) e614 rfl).trans ((NT_fx O581 ((Fx.rf (wr := [23420200]) (h := h578)).pIa t603 ar_117101 hh611 rfl) e588 rfl).trans p598))
                      have p633 := (MInv_fx O613 ((Fx.rf (wr := [23220200]) (h := h612)).pIa t617 ar_116101 hh625 rfl) e614 rfl (MInv_fx O581 ((Fx.rf (wr := [23420200]) (h := h578)).pIa t603 ar_117101 hh611 rfl) e588 rfl (MInv_fx O571 F582 e572 rfl (MInv_fx O562 ((Fx.rf (wr := [2407]) (h := h559)).pI e566 hh569 rfl) e566 rfl (MInv_fx O478 F563 e552 rfl (MInv_fx O273 F479 e468 rfl (MInv_fx O256 F274 e263 rfl (MInv_fx O208 F257 e246 rfl (MInv_fx O191 F209 e198 rfl (MInv_fx O139 F192 e181 rfl (MInv_fx O87 F140 e129 rfl (MInv_fx O70 F88 e77 rfl (MInv_fx O F71 ta0 rfl P_MInv)))))))))))))
                      have p634 := (DLf_fx O613 ((Fx.rf (wr := [23220200]) (h := h612)).pIa t617 ar_116101 hh625 rfl) e614 rfl (DLf_fx O581 ((Fx.rf (wr := [23420200]) (h := h578)).pIa t603 ar_117101 hh611 rfl) e588 rfl (DLf_mono O571 F582 e572 rfl p585.2.2 (DLf_fx O562 ((Fx.rf (wr := [2407]) (h := h559)).pI e566 hh569 rfl) e566 rfl (DLf_fx O478 F563 e552 rfl (DLf_fx O273 F479 e468 rfl (DLf_fx O256 F274 e263 rfl (DLf_fx O208 F257 e246 rfl (DLf_fx O191 F209 e198 rfl (DLf_fx O139 F192 e181 rfl (DLf_fx O87 F140 e129 rfl (DLf_fx O70 F88 e77 rfl (DLf_fx O F71 ta0 rfl P_DLf)))))))))))))
                      exact J18 _ O627 ((((((((((((((Fx.rf (wr := [2407, 2408, 2428, 22420000, 22620400, 22820000, 23020000, 23220200, 23420200, 23620200, 23820000, 24020200, 24220000, 24420000, 24620000, 24820000, 25020000, 25220000, 25420000, 25820000, 26020000]) (h := h)).call F71 rfl).call F88 rfl).call F140 rfl).call F192 rfl).call F209 rfl).call F257 rfl).call F274 rfl).call F479 rfl).call F563 rfl).pI e566 hh569 rfl).call F582 rfl).pIa t603 ar_117101 hh611 rfl).pIa t617 ar_116101 hh625 rfl) ⟨p631, by rw [e628, p632]; omega, by rw [e629, e628, p632]; omega, by rw [e630, e628]; omega⟩ (by unfold ST; rw [e2, e628, e8, e630, e5, e629]; omega) p633 p634
                    · have f635 : (0 : Int) ≤ v619 ∧ v619 ≤ (0 : Int) := ii f621 (r_eq (il 0) q623) (by decide) (by decide)
                      refine g_iload_n C rfl 1 rfl dX12_readNext_150 ?_
                      refine g_if_ne C (iw f564 (by decide) (by decide)) 158 (by decide) dX12_readNext_151 (fun q636 => ?_) (fun q637 => ?_)
                      · have f638 : (1 : Int) ≤ r558 ∧ r558 ≤ (1 : Int) := r_nl f564 q636
                        refine g_iconst C dX12_readNext_158 ?_
                        refine g_zast C t617 rfl l618 (ix f600 (by decide) (by decide)) (iw (il 0) (by decide) (by decide)) dX12_readNext_159 (fun h640 hh639 => ?_)
                        have O641 := O613.pIa t617 ar_116101 hh639 rI_116101_0 (iw (il 0) (by decide) (by decide)) nofun
                        refine g_goto C 184 (by decide) dX12_readNext_160 ?_
                        refine GW.sub [2] rfl ?_
                        have e642 : Iv h640 a0 7 = v586 := ((pI_n hh639 (ne_tag e614 t617 (by decide))).trans ((pI_n hh611 (ne_tag e588 t603 (by decide))).trans e587))
                        have e643 : Iv h640 a0 8 = v590 := ((pI_n hh639 (ne_tag e614 t617 (by decide))).trans ((pI_n hh611 (ne_tag e588 t603 (by decide))).trans e591))
                        have e644 : Iv h640 a0 28 = v7 := ((pI_n hh639 (ne_tag e614 t617 (by decide))).trans ((pI_n hh611 (ne_tag e588 t603 (by decide))).trans e593))
                        have p645 := (TK_fx O613 ((Fx.rf (wr := [23220200]) (h := h612)).pIa t617 ar_116101 hh639 rfl) e614 rfl (TK_fx O581 ((Fx.rf (wr := [23420200]) (h := h578)).pIa t603 ar_117101 hh611 rfl) e588 rfl p594))
                        have p646 := ((NT_fx O613 ((Fx.rf (wr := [23220200]) (h := h612)).pIa t617 ar_116101 hh639 rfl) e614 rfl).trans ((NT_fx O581 ((Fx.rf (wr := [23420200]) (h := h578)).pIa t603 ar_117101 hh611 rfl) e588 rfl).trans p598))
                        have p647 := (MInv_fx O613 ((Fx.rf (wr := [23220200]) (h := h612)).pIa t617 ar_116101 hh639 rfl) e614 rfl (MInv_fx O581 ((Fx.rf (wr := [23420200]) (h := h578)).pIa t603 ar_117101 hh611 rfl) e588 rfl (MInv_fx O571 F582 e572 rfl (MInv_fx O562 ((Fx.rf (wr := [2407]) (h := h559)).pI e566 hh569 rfl) e566 rfl (MInv_fx O478 F563 e552 rfl (MInv_fx O273 F479 e468 rfl (MInv_fx O256 F274 e263 rfl (MInv_fx O208 F257 e246 rfl (MInv_fx O191 F209 e198 rfl (MInv_fx O139 F192 e181 rfl (MInv_fx O87 F140 e129 rfl (MInv_fx O70 F88 e77 rfl (MInv_fx O F71 ta0 rfl P_MInv)))))))))))))
                        have p648 := (DLf_fx O613 ((Fx.rf (wr := [23220200]) (h := h612)).pIa t617 ar_116101 hh639 rfl) e614 rfl (DLf_fx O581 ((Fx.rf (wr := [23420200]) (h := h578)).pIa t603 ar_117101 hh611 rfl) e588 rfl (DLf_mono O571 F582 e572 rfl p585.2.2 (DLf_fx O562 ((Fx.rf (wr := [2407]) (h := h559)).pI e566 hh569 rfl) e566 rfl (DLf_fx O478 F563 e552 rfl (DLf_fx O273 F479 e468 rfl (DLf_fx O256 F274 e263 rfl (DLf_fx O208 F257 e246 rfl (DLf_fx O191 F209 e198 rfl (DLf_fx O139 F192 e181 rfl (DLf_fx O87 F140 e129 rfl (DLf_fx O70 F88 e77 rfl (DLf_fx O F71 ta0 rfl P_DLf)))))))))))))
                        exact J18 _ O641 ((((((((((((((Fx.rf (wr := [2407, 2408, 2428, 22420000, 22620400, 22820000, 23020000, 23220200, 23420200, 23620200, 23820000, 24020200, 24220000, 24420000, 24620000, 24820000, 25020000, 25220000, 25420000, 25820000, 26020000]) (h := h)).call F71 rfl).call F88 rfl).call F140 rfl).call F192 rfl).call F209 rfl).call F257 rfl).call F274 rfl).call F479 rfl).call F563 rfl).pI e566 hh569 rfl).call F582 rfl).pIa t603 ar_117101 hh611 rfl).pIa t617 ar_116101 hh639 rfl) ⟨p645, by rw [e642, p646]; omega, by rw [e643, e642, p646]; omega, by rw [e644, e642]; omega⟩ (by unfold ST; rw [e2, e642, e8, e644, e5, e643]; omega) p647 p648
                      · have f649 : (0 : Int) ≤ r558 ∧ r558 ≤ (0 : Int) := ii f564 (r_eq (il 0) q637) (by decide) (by decide)
                        refine g_iconst C dX12_readNext_154 ?_
                        refine g_goto C 159 (by decide) dX12_readNext_155 ?_
                        refine g_zast C t617 rfl l618 (ix f600 (by decide) (by decide)) (iw (il 1) (by decide) (by decide)) dX12_readNext_159 (fun h651 hh650 => ?_)
                        have O652 := O613.pIa t617 ar_116101 hh650 rI_116101_0 (iw (il 1) (by decide) (by decide)) nofun
                        refine g_goto C 184 (by decide) dX12_readNext_160 ?_
                        refine GW.sub [2] rfl ?_
                        have e653 : Iv h651 a0 7 = v586 := ((pI_n hh650 (ne_tag e614 t617 (by decide))).trans ((pI_n hh611 (ne_tag e588 t603 (by decide))).trans e587))
                        have e654 : Iv h651 a0 8 = v590 := ((pI_n hh650 (ne_tag e614 t617 (by decide))).trans ((pI_n hh611 (ne_tag e588 t603 (by decide))).trans e591))
                        have e655 : Iv h651 a0 28 = v7 := ((pI_n hh650 (ne_tag e614 t617 (by decide))).trans ((pI_n hh611 (ne_tag e588 t603 (by decide))).trans e593))
                        have p656 := (TK_fx O613 ((Fx.rf (wr := [23220200]) (h := h612)).pIa t617 ar_116101 hh650 rfl) e614 rfl (TK_fx O581 ((Fx.rf (wr := [23420200]) (h := h578)).pIa t603 ar_117101 hh611 rfl) e588 rfl p594))
                        have p657 := ((NT_fx O613 ((Fx.rf (wr := [23220200]) (h := h612)).pIa t617 ar_116101 hh650 rfl) e614 rfl).trans ((NT_fx O581 ((Fx.rf (wr := [23420200]) (h := h578)).pIa t603 ar_117101 hh611 rfl) e588 rfl).trans p598))
                        have p658 := (MInv_fx O613 ((Fx.rf (wr := [23220200]) (h := h612)).pIa t617 ar_116101 hh650 rfl) e614 rfl (MInv_fx O581 ((Fx.rf (wr := [23420200]) (h := h578)).pIa t603 ar_117101 hh611 rfl) e588 rfl (MInv_fx O571 F582 e572 rfl (MInv_fx O562 ((Fx.rf (wr := [2407]) (h := h559)).pI e566 hh569 rfl) e566 rfl (MInv_fx O478 F563 e552 rfl (MInv_fx O273 F479 e468 rfl (MInv_fx O256 F274 e263 rfl (MInv_fx O208 F257 e246 rfl (MInv_fx O191 F209 e198 rfl (MInv_fx O139 F192 e181 rfl (MInv_fx O87 F140 e129 rfl (MInv_fx O70 F88 e77 rfl (MInv_fx O F71 ta0 rfl P_MInv)))))))))))))
                        have p659 := (DLf_fx O613 ((Fx.rf (wr := [23220200]) (h := h612)).pIa t617 ar_116101 hh650 rfl) e614 rfl (DLf_fx O581 ((Fx.rf (wr := [23420200]) (h := h578)).pIa t603 ar_117101 hh611 rfl) e588 rfl (DLf_mono O571 F582 e572 rfl p585.2.2 (DLf_fx O562 ((Fx.rf (wr := [2407]) (h := h559)).pI e566 hh569 rfl) e566 rfl (DLf_fx O478 F563 e552 rfl (DLf_fx O273 F479 e468 rfl (DLf_fx O256 F274 e263 rfl (DLf_fx O208 F257 e246 rfl (DLf_fx O191 F209 e198 rfl (DLf_fx O139 F192 e181 rfl (DLf_fx O87 F140 e129 rfl (DLf_fx O70 F88 e77 rfl (DLf_fx O F71 ta0 rfl P_DLf)))))))))))))
                        exact J18 _ O652 ((((((((((((((Fx.rf (wr := [2407, 2408, 2428, 22420000, 22620400, 22820000, 23020000, 23220200, 23420200, 23620200, 23820000, 24020200, 24220000, 24420000, 24620000, 24820000, 25020000, 25220000, 25420000, 25820000, 26020000]) (h := h)).call F71 rfl).call F88 rfl).call F140 rfl).call F192 rfl).call F209 rfl).call F257 rfl).call F274 rfl).call F479 rfl).call F563 rfl).pI e566 hh569 rfl).call F582 rfl).pIa t603 ar_117101 hh611 rfl).pIa t617 ar_116101 hh650 rfl) ⟨p656, by rw [e653, p657]; omega, by rw [e654, e653, p657]; omega, by rw [e655, e653]; omega⟩ (by unfold ST; rw [e2, e653, e8, e655, e5, e654]; omega) p658 p659
                  · have f660 : (0 : Int) ≤ v605 ∧ v605 ≤ (0 : Int) := ii f607 (r_eq (il 0) q609) (by decide) (by decide)
                    refine g_iload_n C rfl 1 rfl dX12_readNext_126 ?_
                    refine g_if_eq C (iw f564 (by decide) (by decide)) 134 (by decide) dX12_readNext_127 (fun q661 => ?_) (fun q662 => ?_)
                    · have f663 : (0 : Int) ≤ r558 ∧ r558 ≤ (0 : Int) := ii f564 (r_eq (il 0) q661) (by decide) (by decide)
                      refine g_iconst C dX12_readNext_134 ?_
                      refine g_zast C t603 rfl l604 (ix f600 (by decide) (by decide)) (iw (il 0) (by decide) (by decide)) dX12_readNext_135 (fun h665 hh664 => ?_)
                      have O666 := O581.pIa t603 ar_117101 hh664 rI_117101_0 (iw (il 0) (by decide) (by decide)) nofun
                      refine g_aload_n C rfl 2 rfl dX12_readNext_136 ?_
                      have e667 : Tg h665 a0 = 12 := ((pIT hh664).trans e588)
                      obtain ⟨v668, e669⟩ : ∃ z, Rv h665 a0 16 = z := ⟨_, rfl⟩
                      have t670 := ok_R O666 e667 rE_12_16 e669
                      have l671 := ok_L O666 e667 rE_12_16 e669
                      refine gf_R C fk_LandSurveyModel_112 rfl e667 e669 dX12_readNext_137 ?_
                      refine g_iload_n C rfl 0 rfl dX12_readNext_140 ?_
                      refine g_aload_n C rfl 2 rfl dX12_readNext_141 ?_
                      refine gf_R C fk_LandSurveyModel_112 rfl e667 e669 dX12_readNext_142 ?_
                      refine g_iload_n C rfl 0 rfl dX12_readNext_145 ?_
                      obtain ⟨v672, e673⟩ : ∃ z, Iv h665 v668 ((80 + r577).toNat) = z := ⟨_, rfl⟩
                      have f674 := ok_Ia O666 t670 ar_116101 rI_116101_0 e673
                      refine g_zald C t670 rfl l671 (ix f600 (by decide) (by decide)) e673 dX12_readNext_146 ?_
                      refine g_if_ne C (iw f674 (by decide) (by decide)) 154 (by decide) dX12_readNext_147 (fun q675 => ?_) (fun q676 => ?_)
                      · have f677 : (1 : Int) ≤ v672 ∧ v672 ≤ (1 : Int) := r_nl f674 q675
                        refine g_iconst C dX12_readNext_154 ?_
                        refine g_goto C 159 (by decide) dX12_readNext_155 ?_
                        refine g_zast C t670 rfl l671 (ix f600 (by decide) (by decide)) (iw (il 1) (by decide) (by decide)) dX12_readNext_159 (fun h679 hh678 => ?_)
                        have O680 := O666.pIa t670 ar_116101 hh678 rI_116101_0 (iw (il 1) (by decide) (by decide)) nofun
                        refine g_goto C 184 (by decide) dX12_readNext_160 ?_
                        refine GW.sub [2] rfl ?_
                        have e681 : Iv h679 a0 7 = v586 := ((pI_n hh678 (ne_tag e667 t670 (by decide))).trans ((pI_n hh664 (ne_tag e588 t603 (by decide))).trans e587))
                        have e682 : Iv h679 a0 8 = v590 := ((pI_n hh678 (ne_tag e667 t670 (by decide))).trans ((pI_n hh664 (ne_tag e588 t603 (by decide))).trans e591))
                        have e683 : Iv h679 a0 28 = v7 := ((pI_n hh678 (ne_tag e667 t670 (by decide))).trans ((pI_n hh664 (ne_tag e588 t603 (by decide))).trans e593))
                        have p684 := (TK_fx O666 ((Fx.rf (wr := [23220200]) (h := h665)).pIa t670 ar_116101 hh678 rfl) e667 rfl (TK_fx O581 ((Fx.rf (wr := [23420200]) (h := h578)).pIa t603 ar_117101 hh664 rfl) e588 rfl p594))
                        have p685 := ((NT_fx O666 ((Fx.rf (wr := [23220200]) (h := h665)).pIa t670 ar_116101 hh678 rfl) e667 rfl).trans ((NT_fx O581 ((Fx.rf (wr := [23420200]) (h := h578)).pIa t603 ar_117101 hh664 rfl) e588 rfl).trans p598))
                        have p686 := (MInv_fx O666 ((Fx.rf (wr := [23220200]) (h := h665)).pIa t670 ar_116101 hh678 rfl) e667 rfl (MInv_fx O581 ((Fx.rf (wr := [23420200]) (h := h578)).pIa t603 ar_117101 hh664 rfl) e588 rfl (MInv_fx O571 F582 e572 rfl (MInv_fx O562 ((Fx.rf (wr := [2407]) (h := h559)).pI e566 hh569 rfl) e566 rfl (MInv_fx O478 F563 e552 rfl (MInv_fx O273 F479 e468 rfl (MInv_fx O256 F274 e263 rfl (MInv_fx O208 F257 e246 rfl (MInv_fx O191 F209 e198 rfl (MInv_fx O139 F192 e181 rfl (MInv_fx O87 F140 e129 rfl (MInv_fx O70 F88 e77 rfl (MInv_fx O F71 ta0 rfl P_MInv)))))))))))))
                        have p687 := (DLf_fx O666 ((Fx.rf (wr := [23220200]) (h := h665)).pIa t670 ar_116101 hh678 rfl) e667 rfl (DLf_fx O581 ((Fx.rf (wr := [23420200]) (h := h578)).pIa t603 ar_117101 hh664 rfl) e588 rfl (DLf_mono O571 F582 e572 rfl p585.2.2 (DLf_fx O562 ((Fx.rf (wr := [2407]) (h := h559)).pI e566 hh569 rfl) e566 rfl (DLf_fx O478 F563 e552 rfl (DLf_fx O273 F479 e468 rfl (DLf_fx O256 F274 e263 rfl (DLf_fx O208 F257 e246 rfl (DLf_fx O191 F209 e198 rfl (DLf_fx O139 F192 e181 rfl (DLf_fx O87 F140 e129 rfl (DLf_fx O70 F88 e77 rfl (DLf_fx O F71 ta0 rfl P_DLf)))))))))))))
                        exact J18 _ O680 ((((((((((((((Fx.rf (wr := [2407, 2408, 2428, 22420000, 22620400, 22820000, 23020000, 23220200, 23420200, 23620200, 23820000, 24020200, 24220000, 24420000, 24620000, 24820000, 25020000, 25220000, 25420000, 25820000, 26020000]) (h := h)).call F71 rfl).call F88 rfl).call F140 rfl).call F192 rfl).call F209 rfl).call F257 rfl).call F274 rfl).call F479 rfl).call F563 rfl).pI e566 hh569 rfl).call F582 rfl).pIa t603 ar_117101 hh664 rfl).pIa t670 ar_116101 hh678 rfl) ⟨p684, by rw [e681, p685]; omega, by rw [e682, e681, p685]; omega, by rw [e683, e681]; omega⟩ (by unfold ST; rw [e2, e681, e8, e683, e5, e682]; omega) p686 p687
                      · have f688 : (0 : Int) ≤ v672 ∧ v672 ≤ (0 : Int) := ii f674 (r_eq (il 0) q676) (by decide) (by decide)
                        refine g_iload_n C rfl 1 rfl dX12_readNext_150 ?_
                        refine g_if_ne C (iw f663 (by decide) (by decide)) 158 (by decide) dX12_readNext_151 (fun q689 => ?_) (fun q690 => ?_)
                        · exact (no_ne f663 (il 0) q689 (by decide)).elim
                        · refine g_iconst C dX12_readNext_154 ?_
                          refine g_goto C 159 (by decide) dX12_readNext_155 ?_
                          refine g_zast C t670 rfl l671 (ix f600 (by decide) (by decide)) (iw (il 1) (by decide) (by decide)) dX12_readNext_159 (fun h692 hh691 => ?_)
                          have O693 := O666.pIa t670 ar_116101 hh691 rI_116101_0 (iw (il 1) (by decide) (by decide)) nofun
                          refine g_goto C 184 (by decide) dX12_readNext_160 ?_
                          refine GW.sub [2] rfl ?_
                          have e694 : Iv h692 a0 7 = v586 := ((pI_n hh691 (ne_tag e667 t670 (by decide))).trans ((pI_n hh664 (ne_tag e588 t603 (by decide))).trans e587))
                          have e695 : Iv h692 a0 8 = v590 := ((pI_n hh691 (ne_tag e667 t670 (by decide))).trans ((pI_n hh664 (ne_tag e588 t603 (by decide))).trans e591))
                          have e696 : Iv h692 a0 28 = v7 := ((pI_n hh691 (ne_tag e667 t670 (by decide))).trans ((pI_n hh664 (ne_tag e588 t603 (by decide))).trans e593))
                          have p697 := (TK_fx O666 ((Fx.rf (wr := [23220200]) (h := h665)).pIa t670 ar_116101 hh691 rfl) e667 rfl (TK_fx O581 ((Fx.rf (wr := [23420200]) (h := h578)).pIa t603 ar_117101 hh664 rfl) e588 rfl p594))
                          have p698 := ((NT_fx O666 ((Fx.rf (wr := [23220200]) (h := h665)).pIa t670 ar_116101 hh691 rfl) e667 rfl).trans ((NT_fx O581 ((Fx.rf (wr := [23420200]) (h := h578)).pIa t603 ar_117101 hh664 rfl) e588 rfl).trans p598))
                          have p699 := (MInv_fx O666 ((Fx.rf (wr := [23220200]) (h := h665)).pIa t670 ar_116101 hh691 rfl) e667 rfl (MInv_fx O581 ((Fx.rf (wr := [23420200]) (h := h578)).pIa t603 ar_117101 hh664 rfl) e588 rfl (MInv_fx O571 F582 e572 rfl (MInv_fx O562 ((Fx.rf (wr := [2407]) (h := h559)).pI e566 hh569 rfl) e566 rfl (MInv_fx O478 F563 e552 rfl (MInv_fx O273 F479 e468 rfl (MInv_fx O256 F274 e263 rfl (MInv_fx O208 F257 e246 rfl (MInv_fx O191 F209 e198 rfl (MInv_fx O139 F192 e181 rfl (MInv_fx O87 F140 e129 rfl (MInv_fx O70 F88 e77 rfl (MInv_fx O F71 ta0 rfl P_MInv)))))))))))))
                          have p700 := (DLf_fx O666 ((Fx.rf (wr := [23220200]) (h := h665)).pIa t670 ar_116101 hh691 rfl) e667 rfl (DLf_fx O581 ((Fx.rf (wr := [23420200]) (h := h578)).pIa t603 ar_117101 hh664 rfl) e588 rfl (DLf_mono O571 F582 e572 rfl p585.2.2 (DLf_fx O562 ((Fx.rf (wr := [2407]) (h := h559)).pI e566 hh569 rfl) e566 rfl (DLf_fx O478 F563 e552 rfl (DLf_fx O273 F479 e468 rfl (DLf_fx O256 F274 e263 rfl (DLf_fx O208 F257 e246 rfl (DLf_fx O191 F209 e198 rfl (DLf_fx O139 F192 e181 rfl (DLf_fx O87 F140 e129 rfl (DLf_fx O70 F88 e77 rfl (DLf_fx O F71 ta0 rfl P_DLf)))))))))))))
                          exact J18 _ O693 ((((((((((((((Fx.rf (wr := [2407, 2408, 2428, 22420000, 22620400, 22820000, 23020000, 23220200, 23420200, 23620200, 23820000, 24020200, 24220000, 24420000, 24620000, 24820000, 25020000, 25220000, 25420000, 25820000, 26020000]) (h := h)).call F71 rfl).call F88 rfl).call F140 rfl).call F192 rfl).call F209 rfl).call F257 rfl).call F274 rfl).call F479 rfl).call F563 rfl).pI e566 hh569 rfl).call F582 rfl).pIa t603 ar_117101 hh664 rfl).pIa t670 ar_116101 hh691 rfl) ⟨p697, by rw [e694, p698]; omega, by rw [e695, e694, p698]; omega, by rw [e696, e694]; omega⟩ (by unfold ST; rw [e2, e694, e8, e696, e5, e695]; omega) p699 p700
                    · have f701 : (1 : Int) ≤ r558 ∧ r558 ≤ (1 : Int) := r_nl f564 q662
                      refine g_iconst C dX12_readNext_130 ?_
                      refine g_goto C 135 (by decide) dX12_readNext_131 ?_
                      refine g_zast C t603 rfl l604 (ix f600 (by decide) (by decide)) (iw (il 1) (by decide) (by decide)) dX12_readNext_135 (fun h703 hh702 => ?_)
                      have O704 := O581.pIa t603 ar_117101 hh702 rI_117101_0 (iw (il 1) (by decide) (by decide)) nofun
                      refine g_aload_n C rfl 2 rfl dX12_readNext_136 ?_
                      have e705 : Tg h703 a0 = 12 := ((pIT hh702).trans e588)
                      obtain ⟨v706, e707⟩ : ∃ z, Rv h703 a0 16 = z := ⟨_, rfl⟩
                      have t708 := ok_R O704 e705 rE_12_16 e707
                      have l709 := ok_L O704 e705 rE_12_16 e707
                      refine gf_R C fk_LandSurveyModel_112 rfl e705 e707 dX12_readNext_137 ?_
                      refine g_iload_n C rfl 0 rfl dX12_readNext_140 ?_
                      refine g_aload_n C rfl 2 rfl dX12_readNext_141 ?_
                      refine gf_R C fk_LandSurveyModel_112 rfl e705 e707 dX12_readNext_142 ?_
                      refine g_iload_n C rfl 0 rfl dX12_readNext_145 ?_
                      obtain ⟨v710, e711⟩ : ∃ z, Iv h703 v706 ((80 + r577).toNat) = z := ⟨_, rfl⟩
                      have f712 := ok_Ia O704 t708 ar_116101 rI_116101_0 e711
                      refine g_zald C t708 rfl l709 (ix f600 (by decide) (by decide)) e711 dX12_readNext_146 ?_
                      refine g_if_ne C (iw f712 (by decide) (by decide)) 154 (by decide) dX12_readNext_147 (fun q713 => ?_) (fun q714 => ?_)
                      · have f715 : (1 : Int) ≤ v710 ∧ v710 ≤ (1 : Int) := r_nl f712 q713
                        refine g_iconst C dX12_readNext_154 ?_
                        refine g_goto C 159 (by decide) dX12_readNext_155 ?_
                        refine g_zast C t708 rfl l709 (ix f600 (by decide) (by decide)) (iw (il 1) (by decide) (by decide)) dX12_readNext_159 (fun h717 hh716 => ?_)
                        have O718 := O704.pIa t708 ar_116101 hh716 rI_116101_0 (iw (il 1) (by decide) (by decide)) nofun
                        refine g_goto C 184 (by decide) dX12_readNext_160 ?_
                        refine GW.sub [2] rfl ?_
                        have e719 : Iv h717 a0 7 = v586 := ((pI_n hh716 (ne_tag e705 t708 (by decide))).trans ((pI_n hh702 (ne_tag e588 t603 (by decide))).trans e587))
                        have e720 : Iv h717 a0 8 = v590 := ((pI_n hh716 (ne_tag e705 t708 (by decide))).trans ((pI_n hh702 (ne_tag e588 t603 (by decide))).trans e591))
                        have e721 : Iv h717 a0 28 = v7 := ((pI_n hh716 (ne_tag e705 t708 (by decide))).trans ((pI_n hh702 (ne_tag e588 t603 (by decide))).trans e593))
                        have p722 := (TK_fx O704 ((Fx.rf (wr := [23220200]) (h := h703)).pIa t708 ar_116101 hh716 rfl) e705 rfl (TK_fx O581 ((Fx.rf (wr := [23420200]) (h := h578)).pIa t603 ar_117101 hh702 rfl) e588 rfl p594))
                        have p723 := ((NT_fx O704 ((Fx.rf (wr := [23220200]) (h := h703)).pIa t708 ar_116101 hh716 rfl) e705 rfl).trans ((NT_fx O581 ((Fx.rf (wr := [23420200]) (h := h578)).pIa t603 ar_117101 hh702 rfl) e588 rfl).trans p598))
                        have p724 := (MInv_fx O704 ((Fx.rf (wr := [23220200]) (h := h703)).pIa t708 ar_116101 hh716 rfl) e705 rfl (MInv_fx O581 ((Fx.rf (wr := [23420200]) (h := h578)).pIa t603 ar_117101 hh702 rfl) e588 rfl (MInv_fx O571 F582 e572 rfl (MInv_fx O562 ((Fx.rf (wr := [2407]) (h := h559)).pI e566 hh569 rfl) e566 rfl (MInv_fx O478 F563 e552 rfl (MInv_fx O273 F479 e468 rfl (MInv_fx O256 F274 e263 rfl (MInv_fx O208 F257 e246 rfl (MInv_fx O191 F209 e198 rfl (MInv_fx O139 F192 e181 rfl (MInv_fx O87 F140 e129 rfl (MInv_fx O70 F88 e77 rfl (MInv_fx O F71 ta0 rfl P_MInv)))))))))))))
                        have p725 := (DLf_fx O704 ((Fx.rf (wr := [23220200]) (h := h703)).pIa t708 ar_116101 hh716 rfl) e705 rfl (DLf_fx O581 ((Fx.rf (wr := [23420200]) (h := h578)).pIa t603 ar_117101 hh702 rfl) e588 rfl (DLf_mono O571 F582 e572 rfl p585.2.2 (DLf_fx O562 ((Fx.rf (wr := [2407]) (h := h559)).pI e566 hh569 rfl) e566 rfl (DLf_fx O478 F563 e552 rfl (DLf_fx O273 F479 e468 rfl (DLf_fx O256 F274 e263 rfl (DLf_fx O208 F257 e246 rfl (DLf_fx O191 F209 e198 rfl (DLf_fx O139 F192 e181 rfl (DLf_fx O87 F140 e129 rfl (DLf_fx O70 F88 e77 rfl (DLf_fx O F71 ta0 rfl P_DLf)))))))))))))
                        exact J18 _ O718 ((((((((((((((Fx.rf (wr := [2407, 2408, 2428, 22420000, 22620400, 22820000, 23020000, 23220200, 23420200, 23620200, 23820000, 24020200, 24220000, 24420000, 24620000, 24820000, 25020000, 25220000, 25420000, 25820000, 26020000]) (h := h)).call F71 rfl).call F88 rfl).call F140 rfl).call F192 rfl).call F209 rfl).call F257 rfl).call F274 rfl).call F479 rfl).call F563 rfl).pI e566 hh569 rfl).call F582 rfl).pIa t603 ar_117101 hh702 rfl).pIa t708 ar_116101 hh716 rfl) ⟨p722, by rw [e719, p723]; omega, by rw [e720, e719, p723]; omega, by rw [e721, e719]; omega⟩ (by unfold ST; rw [e2, e719, e8, e721, e5, e720]; omega) p724 p725
                      · have f726 : (0 : Int) ≤ v710 ∧ v710 ≤ (0 : Int) := ii f712 (r_eq (il 0) q714) (by decide) (by decide)
                        refine g_iload_n C rfl 1 rfl dX12_readNext_150 ?_
                        refine g_if_ne C (iw f701 (by decide) (by decide)) 158 (by decide) dX12_readNext_151 (fun q727 => ?_) (fun q728 => ?_)
                        · refine g_iconst C dX12_readNext_158 ?_
                          refine g_zast C t708 rfl l709 (ix f600 (by decide) (by decide)) (iw (il 0) (by decide) (by decide)) dX12_readNext_159 (fun h730 hh729 => ?_)
                          have O731 := O704.pIa t708 ar_116101 hh729 rI_116101_0 (iw (il 0) (by decide) (by decide)) nofun
                          refine g_goto C 184 (by decide) dX12_readNext_160 ?_
                          refine GW.sub [2] rfl ?_
                          have e732 : Iv h730 a0 7 = v586 := ((pI_n hh729 (ne_tag e705 t708 (by decide))).trans ((pI_n hh702 (ne_tag e588 t603 (by decide))).trans e587))
                          have e733 : Iv h730 a0 8 = v590 := ((pI_n hh729 (ne_tag e705 t708 (by decide))).trans ((pI_n hh702 (ne_tag e588 t603 (by decide))).trans e591))
                          have e734 : Iv h730 a0 28 = v7 := ((pI_n hh729 (ne_tag e705 t708 (by decide))).trans ((pI_n hh702 (ne_tag e588 t603 (by decide))).trans e593))
                          have p735 := (TK_fx O704 ((Fx.rf (wr := [23220200]) (h := h703)).pIa t708 ar_116101 hh729 rfl) e705 rfl (TK_fx O581 ((Fx.rf (wr := [23420200]) (h := h578)).pIa t603 ar_117101 hh702 rfl) e588 rfl p594))
                          have p736 := ((NT_fx O704 ((Fx.rf (wr := [23220200]) (h := h703)).pIa t708 ar_116101 hh729 rfl) e705 rfl).trans ((NT_fx O581 ((Fx.rf (wr := [23420200]) (h := h578)).pIa t603 ar_117101 hh702 rfl) e588 rfl).trans p598))
                          have p737 := (MInv_fx O704 ((Fx.rf (wr := [23220200]) (h := h703)).pIa t708 ar_116101 hh729 rfl) e705 rfl (MInv_fx O581 ((Fx.rf (wr := [23420200]) (h := h578)).pIa t603 ar_117101 hh702 rfl) e588 rfl (MInv_fx O571 F582 e572 rfl (MInv_fx O562 ((Fx.rf (wr := [2407]) (h := h559)).pI e566 hh569 rfl) e566 rfl (MInv_fx O478 F563 e552 rfl (MInv_fx O273 F479 e468 rfl (MInv_fx O256 F274 e263 rfl (MInv_fx O208 F257 e246 rfl (MInv_fx O191 F209 e198 rfl (MInv_fx O139 F192 e181 rfl (MInv_fx O87 F140 e129 rfl (MInv_fx O70 F88 e77 rfl (MInv_fx O F71 ta0 rfl P_MInv)))))))))))))
                          have p738 := (DLf_fx O704 ((Fx.rf (wr := [23220200]) (h := h703)).pIa t708 ar_116101 hh729 rfl) e705 rfl (DLf_fx O581 ((Fx.rf (wr := [23420200]) (h := h578)).pIa t603 ar_117101 hh702 rfl) e588 rfl (DLf_mono O571 F582 e572 rfl p585.2.2 (DLf_fx O562 ((Fx.rf (wr := [2407]) (h := h559)).pI e566 hh569 rfl) e566 rfl (DLf_fx O478 F563 e552 rfl (DLf_fx O273 F479 e468 rfl (DLf_fx O256 F274 e263 rfl (DLf_fx O208 F257 e246 rfl (DLf_fx O191 F209 e198 rfl (DLf_fx O139 F192 e181 rfl (DLf_fx O87 F140 e129 rfl (DLf_fx O70 F88 e77 rfl (DLf_fx O F71 ta0 rfl P_DLf)))))))))))))
                          exact J18 _ O731 ((((((((((((((Fx.rf (wr := [2407, 2408, 2428, 22420000, 22620400, 22820000, 23020000, 23220200, 23420200, 23620200, 23820000, 24020200, 24220000, 24420000, 24620000, 24820000, 25020000, 25220000, 25420000, 25820000, 26020000]) (h := h)).call F71 rfl).call F88 rfl).call F140 rfl).call F192 rfl).call F209 rfl).call F257 rfl).call F274 rfl).call F479 rfl).call F563 rfl).pI e566 hh569 rfl).call F582 rfl).pIa t603 ar_117101 hh702 rfl).pIa t708 ar_116101 hh729 rfl) ⟨p735, by rw [e732, p736]; omega, by rw [e733, e732, p736]; omega, by rw [e734, e732]; omega⟩ (by unfold ST; rw [e2, e732, e8, e734, e5, e733]; omega) p737 p738
                        · exact (no_eq f701 (il 0) q728 (by decide)).elim
            · have f739 : (1 : Int) ≤ r252 ∧ r252 ≤ (1 : Int) := r_nl f258 q261
              refine g_aload_n C rfl 0 rfl dX12_readNext_62 ?_
              have e740 : Tg h253 a0 = 12 := (fxT F257 e246)
              have e741 : Iv h253 a0 7 = v1 := ((fxI F257 e246 rfl).trans e247)
              have e742 : Iv h253 a0 8 = v4 := ((fxI F257 e246 rfl).trans e248)
              have e743 : Iv h253 a0 28 = v7 := ((fxI F257 e246 rfl).trans e249)
              have p744 := (TK_fx O208 F257 e246 rfl p250)
              have p745 := ((NT_fx O208 F257 e246 rfl).trans p251)
              refine g_callV (st := []) (gc_V C lk_LandSurveyModel_371 (k_X12_readBound l D cy w z0 O256 e740 ⟨p744, by rw [e741, p745]; omega, by rw [e742, e741, p745]; omega, by rw [e743, e741]; omega⟩ (by rw [e742, e741, p745]; omega)) e740 rfl rfl rfl ⟨by decide, by decide⟩ (Nat.le_of_ble_eq_true rfl) dX12_readNext_63 ⟨(by decide), (by decide)⟩) (fun h747 K748 => ?_)
              obtain ⟨O750, F751, p752, p753⟩ := K748
              obtain ⟨v754, e755⟩ : ∃ z, Iv h747 a0 7 = z := ⟨_, rfl⟩
              have e756 : Tg h747 a0 = 12 := (fxT F751 e740)
              have f757 := ok_I O750 e756 rI_12_7 e755
              obtain ⟨v758, e759⟩ : ∃ z, Iv h747 a0 8 = z := ⟨_, rfl⟩
              have f760 := ok_I O750 e756 rI_12_8 e759
              have e761 : Iv h747 a0 28 = v7 := ((fxI F751 e740 rfl).trans e743)
              obtain ⟨p762, p763, p764, p765⟩ := p752
              have p766 := ((NT_fx O256 F751 e740 rfl).trans p745)
              rw [e755, p766] at p763
              rw [e759, e755, p766] at p764
              rw [e761, e755] at p765
              have p767 := p753
              unfold ST at p767
              rw [e741, e755, e743, e761, e742, e759] at p767
              refine g_goto C 184 (by decide) dX12_readNext_66 ?_
              refine GW.sub [0] rfl ?_
              have p768 := (MInv_fx O256 F751 e740 rfl (MInv_fx O208 F257 e246 rfl (MInv_fx O191 F209 e198 rfl (MInv_fx O139 F192 e181 rfl (MInv_fx O87 F140 e129 rfl (MInv_fx O70 F88 e77 rfl (MInv_fx O F71 ta0 rfl P_MInv)))))))
              have p769 := (DLf_mono O256 F751 e740 rfl p753.2.2 (DLf_fx O208 F257 e246 rfl (DLf_fx O191 F209 e198 rfl (DLf_fx O139 F192 e181 rfl (DLf_fx O87 F140 e129 rfl (DLf_fx O70 F88 e77 rfl (DLf_fx O F71 ta0 rfl P_DLf)))))))
              exact J18 _ O750 ((((((((Fx.rf (wr := [2407, 2408, 2428, 22420000, 22620400, 22820000, 23020000, 23220200, 23420200, 23620200, 23820000, 24020200, 24220000, 24420000, 24620000, 24820000, 25020000, 25220000, 25420000, 25820000, 26020000]) (h := h)).call F71 rfl).call F88 rfl).call F140 rfl).call F192 rfl).call F209 rfl).call F257 rfl).call F751 rfl) ⟨p762, by rw [e755, p766]; omega, by rw [e759, e755, p766]; omega, by rw [e761, e755]; omega⟩ (by unfold ST; rw [e2, e755, e8, e761, e5, e759]; omega) p768 p769
        · have f770 : (1 : Int) ≤ r187 ∧ r187 ≤ (1 : Int) := r_nl f193 q196
          refine g_aload_n C rfl 0 rfl dX12_readNext_39 ?_
          have e771 : Tg h188 a0 = 12 := (fxT F192 e181)
          have e772 : Iv h188 a0 7 = v1 := ((fxI F192 e181 rfl).trans e182)
          have e773 : Iv h188 a0 8 = v4 := ((fxI F192 e181 rfl).trans e183)
          have e774 : Iv h188 a0 28 = v7 := ((fxI F192 e181 rfl).trans e184)
          have p775 := (TK_fx O139 F192 e181 rfl p185)
          have p776 := ((NT_fx O139 F192 e181 rfl).trans p186)
          have p777 := (MInv_fx O139 F192 e181 rfl (MInv_fx O87 F140 e129 rfl (MInv_fx O70 F88 e77 rfl (MInv_fx O F71 ta0 rfl P_MInv))))
          have p778 := (DLf_fx O139 F192 e181 rfl (DLf_fx O87 F140 e129 rfl (DLf_fx O70 F88 e77 rfl (DLf_fx O F71 ta0 rfl P_DLf))))
          refine g_callV (st := []) (gc_V C lk_LandSurveyModel_368 (k_X12_readLine l D cy w z0 O191 e771 ⟨p775, by rw [e772, p776]; omega, by rw [e773, e772, p776]; omega, by rw [e774, e772]; omega⟩ (by rw [e773, e772, p776]; omega) p777 p778) e771 rfl rfl rfl ⟨by decide, by decide⟩ (Nat.le_of_ble_eq_true rfl) dX12_readNext_40 ⟨(by decide), (by decide)⟩) (fun h780 K781 => ?_)
          obtain ⟨O783, F784, p785, p786, p787, p788⟩ := K781
          obtain ⟨v789, e790⟩ : ∃ z, Iv h780 a0 7 = z := ⟨_, rfl⟩
          have e791 : Tg h780 a0 = 12 := (fxT F784 e771)
          have f792 := ok_I O783 e791 rI_12_7 e790
          obtain ⟨v793, e794⟩ : ∃ z, Iv h780 a0 8 = z := ⟨_, rfl⟩
          have f795 := ok_I O783 e791 rI_12_8 e794
          obtain ⟨v796, e797⟩ : ∃ z, Iv h780 a0 28 = z := ⟨_, rfl⟩
          have f798 := ok_I O783 e791 rI_12_28 e797
          obtain ⟨p799, p800, p801, p802⟩ := p785
          have p803 := ((NT_fx O191 F784 e771 rfl).trans p776)
          rw [e790, p803] at p800
          rw [e794, e790, p803] at p801
          rw [e797, e790] at p802
          have p804 := p786
          unfold ST at p804
          rw [e772, e790, e774, e797, e773, e794] at p804
          refine g_goto C 184 (by decide) dX12_readNext_43 ?_
          refine GW.sub [0] rfl ?_
          exact J18 _ O783 ((((((Fx.rf (wr := [2407, 2408, 2428, 22420000, 22620400, 22820000, 23020000, 23220200, 23420200, 23620200, 23820000, 24020200, 24220000, 24420000, 24620000, 24820000, 25020000, 25220000, 25420000, 25820000, 26020000]) (h := h)).call F71 rfl).call F88 rfl).call F140 rfl).call F192 rfl).call F784 rfl) ⟨p799, by rw [e790, p803]; omega, by rw [e794, e790, p803]; omega, by rw [e797, e790]; omega⟩ (by unfold ST; rw [e2, e790, e8, e797, e5, e794]; omega) p787 p788
  · have f805 : (1 : Int) ≤ r66 ∧ r66 ≤ (1 : Int) := r_nl f72 q75
    refine g_aload_n C rfl 0 rfl dX12_readNext_8 ?_
    have e806 : Tg h67 a0 = 12 := (fxT F71 ta0)
    have e807 : Iv h67 a0 7 = v1 := ((fxI F71 ta0 rfl).trans e2)
    have e808 : Iv h67 a0 8 = v4 := ((fxI F71 ta0 rfl).trans e5)
    have e809 : Iv h67 a0 28 = v7 := ((fxI F71 ta0 rfl).trans e8)
    have p810 := (TK_fx O F71 ta0 rfl p10)
    have p811 := ((NT_fx O F71 ta0 rfl).trans e15)
    refine g_callV (st := []) (gc_V C lk_LandSurveyModel_365 (k_X12_readRock l D cy w z0 O70 e806 ⟨p810, by rw [e807, p811]; omega, by rw [e808, e807, p811]; omega, by rw [e809, e807]; omega⟩ (by rw [e808, e807, p811]; omega)) e806 rfl rfl rfl ⟨by decide, by decide⟩ (Nat.le_of_ble_eq_true rfl) dX12_readNext_9 ⟨(by decide), (by decide)⟩) (fun h813 K814 => ?_)
    obtain ⟨O816, F817, p818, p819⟩ := K814
    obtain ⟨v820, e821⟩ : ∃ z, Iv h813 a0 7 = z := ⟨_, rfl⟩
    have e822 : Tg h813 a0 = 12 := (fxT F817 e806)
    have f823 := ok_I O816 e822 rI_12_7 e821
    obtain ⟨v824, e825⟩ : ∃ z, Iv h813 a0 8 = z := ⟨_, rfl⟩
    have f826 := ok_I O816 e822 rI_12_8 e825
    have e827 : Iv h813 a0 28 = v7 := ((fxI F817 e806 rfl).trans e809)
    obtain ⟨p828, p829, p830, p831⟩ := p818
    have p832 := ((NT_fx O70 F817 e806 rfl).trans p811)
    rw [e821, p832] at p829
    rw [e825, e821, p832] at p830
    rw [e827, e821] at p831
    have p833 := p819
    unfold ST at p833
    rw [e807, e821, e809, e827, e808, e825] at p833
    refine g_goto C 184 (by decide) dX12_readNext_12 ?_
    refine GW.sub [0] rfl ?_
    have p834 := (MInv_fx O70 F817 e806 rfl (MInv_fx O F71 ta0 rfl P_MInv))
    have p835 := (DLf_mono O70 F817 e806 rfl p819.2.2 (DLf_fx O F71 ta0 rfl P_DLf))
    exact J18 _ O816 (((Fx.rf (wr := [2407, 2408, 2428, 22420000, 22620400, 22820000, 23020000, 23220200, 23420200, 23620200, 23820000, 24020200, 24220000, 24420000, 24620000, 24820000, 25020000, 25220000, 25420000, 25820000, 26020000]) (h := h)).call F71 rfl).call F817 rfl) ⟨p828, by rw [e821, p832]; omega, by rw [e825, e821, p832]; omega, by rw [e827, e821]; omega⟩ (by unfold ST; rw [e2, e821, e8, e827, e5, e825]; omega) p834 p835
