abbrev cX12_readNext : ByteArray := prog_14_method_25_code
def yX12_readNext : MethodName := ⟨RX12, "readNext", "()V"⟩
theorem okX12_readNext : yok yX12_readNext 0 := by decide +kernel
theorem dX12_readNext_0 : decode cX12_readNext 0 = .ok (.aload_n 0, 1) := by decide +kernel
theorem dX12_readNext_1 : decode cX12_readNext 1 = .ok (.iconst 0, 1) := by decide +kernel
theorem dX12_readNext_2 : decode cX12_readNext 2 = .ok (.invokevirtual 330, 3) := by decide +kernel
theorem dX12_readNext_5 : decode cX12_readNext 5 = .ok (.ifCond .eq 10, 3) := by decide +kernel
theorem dX12_readNext_15 : decode cX12_readNext 15 = .ok (.aload_n 0, 1) := by decide +kernel
theorem dX12_readNext_16 : decode cX12_readNext 16 = .ok (.iconst 1, 1) := by decide +kernel
theorem dX12_readNext_17 : decode cX12_readNext 17 = .ok (.invokevirtual 330, 3) := by decide +kernel
theorem dX12_readNext_20 : decode cX12_readNext 20 = .ok (.ifCond .ne 19, 3) := by decide +kernel
theorem dX12_readNext_39 : decode cX12_readNext 39 = .ok (.aload_n 0, 1) := by decide +kernel
theorem dX12_readNext_40 : decode cX12_readNext 40 = .ok (.invokevirtual 368, 3) := by decide +kernel
theorem kw_1834 : Cond.code yX12_readLine prog_14_method_29_code 2 none ∈ uu := uu_in (i := 1834) (by decide +kernel) (by decide +kernel)
theorem kw_1831 : Cond.methodLink "LandSurveyModel" 368 yX12_readLine ∈ uu := uu_in (i := 1831) (by decide +kernel) (by decide +kernel)
theorem kw_1833 : Cond.instanceMethod yX12_readLine ∈ uu := uu_in (i := 1833) (by decide +kernel) (by decide +kernel)
theorem kw_75 : Cond.selects "LandSurveyModel" yX12_readLine yX12_readLine ∈ uu := uu_in (i := 75) (by decide +kernel) (by decide +kernel)
theorem lk_LandSurveyModel_368 : lkV "LandSurveyModel" 368 yX12_readLine cX12_readLine 2 none 0 := ⟨kw_1831, kw_1833, kw_75, kw_152, kw_1834, okX12_readLine⟩
theorem dX12_readNext_43 : decode cX12_readNext 43 = .ok (.goto 141, 3) := by decide +kernel
theorem dX12_readNext_184 : decode cX12_readNext 184 = .ok (.aload_n 0, 1) := by decide +kernel
theorem dX12_readNext_185 : decode cX12_readNext 185 = .ok (.bipush 59, 2) := by decide +kernel
theorem dX12_readNext_187 : decode cX12_readNext 187 = .ok (.invokevirtual 380, 3) := by decide +kernel
theorem dX12_readNext_190 : decode cX12_readNext 190 = .ok (.return_, 1) := by decide +kernel
theorem dX12_readNext_23 : decode cX12_readNext 23 = .ok (.aload_n 0, 1) := by decide +kernel
theorem dX12_readNext_24 : decode cX12_readNext 24 = .ok (.iconst 2, 1) := by decide +kernel
theorem dX12_readNext_25 : decode cX12_readNext 25 = .ok (.invokevirtual 330, 3) := by decide +kernel
theorem dX12_readNext_28 : decode cX12_readNext 28 = .ok (.ifCond .ne 11, 3) := by decide +kernel
theorem dX12_readNext_31 : decode cX12_readNext 31 = .ok (.aload_n 0, 1) := by decide +kernel
theorem dX12_readNext_32 : decode cX12_readNext 32 = .ok (.iconst 3, 1) := by decide +kernel
theorem dX12_readNext_33 : decode cX12_readNext 33 = .ok (.invokevirtual 330, 3) := by decide +kernel
theorem dX12_readNext_36 : decode cX12_readNext 36 = .ok (.ifCond .eq 10, 3) := by decide +kernel
theorem dX12_readNext_46 : decode cX12_readNext 46 = .ok (.aload_n 0, 1) := by decide +kernel
theorem dX12_readNext_47 : decode cX12_readNext 47 = .ok (.iconst 4, 1) := by decide +kernel
theorem dX12_readNext_48 : decode cX12_readNext 48 = .ok (.invokevirtual 330, 3) := by decide +kernel
theorem dX12_readNext_51 : decode cX12_readNext 51 = .ok (.ifCond .ne 11, 3) := by decide +kernel
theorem dX12_readNext_62 : decode cX12_readNext 62 = .ok (.aload_n 0, 1) := by decide +kernel
theorem dX12_readNext_63 : decode cX12_readNext 63 = .ok (.invokevirtual 371, 3) := by decide +kernel
theorem kw_1874 : Cond.code yX12_readBound prog_14_method_27_code 3 none ∈ uu := uu_in (i := 1874) (by decide +kernel) (by decide +kernel)
theorem kw_1871 : Cond.methodLink "LandSurveyModel" 371 yX12_readBound ∈ uu := uu_in (i := 1871) (by decide +kernel) (by decide +kernel)
theorem kw_1873 : Cond.instanceMethod yX12_readBound ∈ uu := uu_in (i := 1873) (by decide +kernel) (by decide +kernel)
theorem kw_85 : Cond.selects "LandSurveyModel" yX12_readBound yX12_readBound ∈ uu := uu_in (i := 85) (by decide +kernel) (by decide +kernel)
theorem lk_LandSurveyModel_371 : lkV "LandSurveyModel" 371 yX12_readBound cX12_readBound 3 none 0 := ⟨kw_1871, kw_1873, kw_85, kw_152, kw_1874, okX12_readBound⟩
theorem dX12_readNext_66 : decode cX12_readNext 66 = .ok (.goto 118, 3) := by decide +kernel
theorem dX12_readNext_54 : decode cX12_readNext 54 = .ok (.aload_n 0, 1) := by decide +kernel
theorem dX12_readNext_55 : decode cX12_readNext 55 = .ok (.iconst 5, 1) := by decide +kernel
theorem dX12_readNext_56 : decode cX12_readNext 56 = .ok (.invokevirtual 330, 3) := by decide +kernel
theorem dX12_readNext_59 : decode cX12_readNext 59 = .ok (.ifCond .eq 10, 3) := by decide +kernel
theorem dX12_readNext_69 : decode cX12_readNext 69 = .ok (.aload_n 0, 1) := by decide +kernel
theorem dX12_readNext_70 : decode cX12_readNext 70 = .ok (.bipush 6, 2) := by decide +kernel
theorem dX12_readNext_72 : decode cX12_readNext 72 = .ok (.invokevirtual 330, 3) := by decide +kernel
theorem dX12_readNext_75 : decode cX12_readNext 75 = .ok (.ifCond .ne 12, 3) := by decide +kernel
theorem dX12_readNext_87 : decode cX12_readNext 87 = .ok (.aload_n 0, 1) := by decide +kernel
theorem dX12_readNext_88 : decode cX12_readNext 88 = .ok (.bipush 7, 2) := by decide +kernel
theorem dX12_readNext_90 : decode cX12_readNext 90 = .ok (.invokevirtual 330, 3) := by decide +kernel
theorem dX12_readNext_93 : decode cX12_readNext 93 = .ok (.istore_n 1, 1) := by decide +kernel
theorem dX12_readNext_94 : decode cX12_readNext 94 = .ok (.aload_n 0, 1) := by decide +kernel
theorem dX12_readNext_95 : decode cX12_readNext 95 = .ok (.dup, 1) := by decide +kernel
theorem dX12_readNext_96 : decode cX12_readNext 96 = .ok (.getfield 317, 3) := by decide +kernel
theorem dX12_readNext_99 : decode cX12_readNext 99 = .ok (.iconst 1, 1) := by decide +kernel
theorem dX12_readNext_100 : decode cX12_readNext 100 = .ok (.iadd, 1) := by decide +kernel
theorem dX12_readNext_101 : decode cX12_readNext 101 = .ok (.putfield 317, 3) := by decide +kernel
theorem dX12_readNext_104 : decode cX12_readNext 104 = .ok (.bipush 80, 2) := by decide +kernel
theorem dX12_readNext_106 : decode cX12_readNext 106 = .ok (.aload_n 0, 1) := by decide +kernel
theorem dX12_readNext_107 : decode cX12_readNext 107 = .ok (.invokevirtual 374, 3) := by decide +kernel
theorem dX12_readNext_110 : decode cX12_readNext 110 = .ok (.iadd, 1) := by decide +kernel
theorem dX12_readNext_111 : decode cX12_readNext 111 = .ok (.istore_n 2, 1) := by decide +kernel
theorem dX12_readNext_112 : decode cX12_readNext 112 = .ok (.aload_n 0, 1) := by decide +kernel
theorem dX12_readNext_113 : decode cX12_readNext 113 = .ok (.getfield 116, 3) := by decide +kernel
theorem kw_1523 : Cond.fieldLink "LandSurveyModel" 116 "LandSurveyModel" "isTight" "[Z" ∈ uu := uu_in (i := 1523) (by decide +kernel) (by decide +kernel)
theorem fk_LandSurveyModel_116 : fkR "LandSurveyModel" 116 11 17 RX12 TX12 87 := ⟨rfl, rfl, inX12, by decide, kw_1523, by decide⟩
theorem dX12_readNext_116 : decode cX12_readNext 116 = .ok (.iload_n 2, 1) := by decide +kernel
theorem dX12_readNext_117 : decode cX12_readNext 117 = .ok (.aload_n 0, 1) := by decide +kernel
theorem dX12_readNext_118 : decode cX12_readNext 118 = .ok (.getfield 116, 3) := by decide +kernel
theorem dX12_readNext_121 : decode cX12_readNext 121 = .ok (.iload_n 2, 1) := by decide +kernel
theorem dX12_readNext_122 : decode cX12_readNext 122 = .ok (.baload, 1) := by decide +kernel
theorem dX12_readNext_123 : decode cX12_readNext 123 = .ok (.ifCond .ne 7, 3) := by decide +kernel
theorem dX12_readNext_130 : decode cX12_readNext 130 = .ok (.iconst 1, 1) := by decide +kernel
theorem dX12_readNext_131 : decode cX12_readNext 131 = .ok (.goto 4, 3) := by decide +kernel
theorem dX12_readNext_135 : decode cX12_readNext 135 = .ok (.bastore, 1) := by decide +kernel
theorem dX12_readNext_136 : decode cX12_readNext 136 = .ok (.aload_n 0, 1) := by decide +kernel
theorem dX12_readNext_137 : decode cX12_readNext 137 = .ok (.getfield 112, 3) := by decide +kernel
theorem kw_1522 : Cond.fieldLink "LandSurveyModel" 112 "LandSurveyModel" "isHolding" "[Z" ∈ uu := uu_in (i := 1522) (by decide +kernel) (by decide +kernel)
theorem fk_LandSurveyModel_112 : fkR "LandSurveyModel" 112 11 16 RX12 TX12 87 := ⟨rfl, rfl, inX12, by decide, kw_1522, by decide⟩
theorem dX12_readNext_140 : decode cX12_readNext 140 = .ok (.iload_n 2, 1) := by decide +kernel
theorem dX12_readNext_141 : decode cX12_readNext 141 = .ok (.aload_n 0, 1) := by decide +kernel
theorem dX12_readNext_142 : decode cX12_readNext 142 = .ok (.getfield 112, 3) := by decide +kernel
theorem dX12_readNext_145 : decode cX12_readNext 145 = .ok (.iload_n 2, 1) := by decide +kernel
theorem dX12_readNext_146 : decode cX12_readNext 146 = .ok (.baload, 1) := by decide +kernel
theorem dX12_readNext_147 : decode cX12_readNext 147 = .ok (.ifCond .ne 7, 3) := by decide +kernel
theorem dX12_readNext_154 : decode cX12_readNext 154 = .ok (.iconst 1, 1) := by decide +kernel
theorem dX12_readNext_155 : decode cX12_readNext 155 = .ok (.goto 4, 3) := by decide +kernel
theorem dX12_readNext_159 : decode cX12_readNext 159 = .ok (.bastore, 1) := by decide +kernel
theorem dX12_readNext_160 : decode cX12_readNext 160 = .ok (.goto 24, 3) := by decide +kernel
theorem dX12_readNext_150 : decode cX12_readNext 150 = .ok (.iload_n 1, 1) := by decide +kernel
theorem dX12_readNext_151 : decode cX12_readNext 151 = .ok (.ifCond .ne 7, 3) := by decide +kernel
theorem dX12_readNext_158 : decode cX12_readNext 158 = .ok (.iconst 0, 1) := by decide +kernel
theorem dX12_readNext_126 : decode cX12_readNext 126 = .ok (.iload_n 1, 1) := by decide +kernel
theorem dX12_readNext_127 : decode cX12_readNext 127 = .ok (.ifCond .eq 7, 3) := by decide +kernel
theorem dX12_readNext_134 : decode cX12_readNext 134 = .ok (.iconst 0, 1) := by decide +kernel
theorem dX12_readNext_78 : decode cX12_readNext 78 = .ok (.aload_n 0, 1) := by decide +kernel
theorem dX12_readNext_79 : decode cX12_readNext 79 = .ok (.bipush 7, 2) := by decide +kernel
theorem dX12_readNext_81 : decode cX12_readNext 81 = .ok (.invokevirtual 330, 3) := by decide +kernel
theorem dX12_readNext_84 : decode cX12_readNext 84 = .ok (.ifCond .eq 79, 3) := by decide +kernel
theorem dX12_readNext_163 : decode cX12_readNext 163 = .ok (.aload_n 0, 1) := by decide +kernel
theorem dX12_readNext_164 : decode cX12_readNext 164 = .ok (.bipush 8, 2) := by decide +kernel
theorem dX12_readNext_166 : decode cX12_readNext 166 = .ok (.invokevirtual 330, 3) := by decide +kernel
theorem dX12_readNext_169 : decode cX12_readNext 169 = .ok (.ifCond .eq 10, 3) := by decide +kernel
theorem dX12_readNext_179 : decode cX12_readNext 179 = .ok (.aload_n 0, 1) := by decide +kernel
theorem dX12_readNext_180 : decode cX12_readNext 180 = .ok (.iconst 1, 1) := by decide +kernel
theorem dX12_readNext_181 : decode cX12_readNext 181 = .ok (.invokevirtual 326, 3) := by decide +kernel
theorem dX12_readNext_172 : decode cX12_readNext 172 = .ok (.aload_n 0, 1) := by decide +kernel
theorem dX12_readNext_173 : decode cX12_readNext 173 = .ok (.invokevirtual 377, 3) := by decide +kernel
theorem kw_1878 : Cond.code yX12_readRemain prog_14_method_28_code 5 none ∈ uu := uu_in (i := 1878) (by decide +kernel) (by decide +kernel)
theorem kw_1875 : Cond.methodLink "LandSurveyModel" 377 yX12_readRemain ∈ uu := uu_in (i := 1875) (by decide +kernel) (by decide +kernel)
theorem kw_1877 : Cond.instanceMethod yX12_readRemain ∈ uu := uu_in (i := 1877) (by decide +kernel) (by decide +kernel)
theorem kw_86 : Cond.selects "LandSurveyModel" yX12_readRemain yX12_readRemain ∈ uu := uu_in (i := 86) (by decide +kernel) (by decide +kernel)
theorem lk_LandSurveyModel_377 : lkV "LandSurveyModel" 377 yX12_readRemain cX12_readRemain 5 none 0 := ⟨kw_1875, kw_1877, kw_86, kw_152, kw_1878, okX12_readRemain⟩
theorem dX12_readNext_176 : decode cX12_readNext 176 = .ok (.goto 8, 3) := by decide +kernel
theorem dX12_readNext_8 : decode cX12_readNext 8 = .ok (.aload_n 0, 1) := by decide +kernel
theorem dX12_readNext_9 : decode cX12_readNext 9 = .ok (.invokevirtual 365, 3) := by decide +kernel
theorem kw_1806 : Cond.code yX12_readRock prog_14_method_26_code 2 none ∈ uu := uu_in (i := 1806) (by decide +kernel) (by decide +kernel)
theorem kw_1803 : Cond.methodLink "LandSurveyModel" 365 yX12_readRock ∈ uu := uu_in (i := 1803) (by decide +kernel) (by decide +kernel)
theorem kw_1805 : Cond.instanceMethod yX12_readRock ∈ uu := uu_in (i := 1805) (by decide +kernel) (by decide +kernel)
theorem kw_68 : Cond.selects "LandSurveyModel" yX12_readRock yX12_readRock ∈ uu := uu_in (i := 68) (by decide +kernel) (by decide +kernel)
theorem lk_LandSurveyModel_365 : lkV "LandSurveyModel" 365 yX12_readRock cX12_readRock 2 none 0 := ⟨kw_1803, kw_1805, kw_68, kw_152, kw_1806, okX12_readRock⟩
theorem dX12_readNext_12 : decode cX12_readNext 12 = .ok (.goto 172, 3) := by decide +kernel
def wr_k_X12_readNext : List Nat := [2407, 2408, 2428, 22420000, 22620400, 22820000, 23020000, 23220200, 23420200, 23620200, 23820000, 24020200, 24220000, 24420000, 24620000, 24820000, 25020000, 25220000, 25420000, 25820000, 26020000]
set_option maxRecDepth 100000 in
set_option maxHeartbeats 4000000 in
theorem k_X12_readNext (l : Launch) (D : va_G) (cy : Nat → ClassId) (w : Nat → Nat) (z0 : Nat) {h : Hp} {a0 : Nat}  (O : Okh h) (ta0 : Tg h a0 = 12) (P_RD : RD h a0) (P_MInv : MInv h a0) (P_DLf : DLf h a0) : MV l D cy w z0 yX12_readNext cX12_readNext 3 none 23 509 0 0 [.inr (.inr a0)] h (fun h1 => Okh h1 ∧ Fx wr_k_X12_readNext h h1 ∧ (RD h1 a0) ∧ (ST h h1 a0) ∧ (MInv h1 a0) ∧ (DLf h1 a0) ∧ (Iv h1 a0 8 = 0 → Iv h a0 7 < Iv h1 a0 7)) := by
  obtain ⟨v1, e2⟩ : ∃ z, Iv h a0 7 = z := ⟨_, rfl⟩
  have f3 := ok_I O ta0 rI_12_7 e2
  obtain ⟨v4, e5⟩ : ∃ z, Iv h a0 8 = z := ⟨_, rfl⟩
  have f6 := ok_I O ta0 rI_12_8 e5
  obtain ⟨v7, e8⟩ : ∃ z, Iv h a0 28 = z := ⟨_, rfl⟩
  have f9 := ok_I O ta0 rI_12_28 e8
  obtain ⟨p10, p11, p12, p13⟩ := P_RD
  obtain ⟨v14, e15⟩ : ∃ z, NT h a0 = z := ⟨_, rfl⟩
  have f16 : (0 : Int) ≤ v14 ∧ v14 ≤ (1500 : Int) := NT_rng p10 e15
  rw [e2, e15] at p11
  rw [e5, e2, e15] at p12
  rw [e8, e2] at p13
  refine hm_go (by decide +kernel) (Nat.le_of_ble_eq_true rfl) (fun p e s m below meth c C hr hn => ?_)
  refine g_aload_n C rfl 0 rfl dX12_readNext_0 ?_
  refine g_iconst C dX12_readNext_1 ?_
  refine g_callI (st := []) (gc_V C lk_LandSurveyModel_330 (k_X12_isWord l D cy w z0 O ta0 (iw (il 0) (by decide) (by decide)) ⟨p10, by rw [e2, e15]; omega, by rw [e5, e2, e15]; omega, by rw [e8, e2]; omega⟩) ta0 rfl rfl rfl ⟨by decide, by decide⟩ (Nat.le_of_ble_eq_true rfl) dX12_readNext_2 ⟨(by decide), (by decide)⟩) (fun r17 h18 f20 K19 => ?_)
  obtain ⟨O21, F22, f23, p24, p25⟩ := K19
  rw [e5, e2, e15] at p24
  obtain ⟨v26, e27⟩ : ∃ z, Rv h a0 4 = z := ⟨_, rfl⟩
  have t28 := ok_R O ta0 rE_12_4 e27
  have l29 := ok_L O ta0 rE_12_4 e27
  obtain ⟨v30, e31⟩ : ∃ z, Iv h v26 v1.toNat = z := ⟨_, rfl⟩
  have f32 := ok_Ia O t28 ar_104100 rI_104100_0 e31
  obtain ⟨v33, e34⟩ : ∃ z, Rv h a0 6 = z := ⟨_, rfl⟩
  have t35 := ok_R O ta0 rE_12_6 e34
  have l36 := ok_L O ta0 rE_12_6 e34
  obtain ⟨v37, e38⟩ : ∃ z, Jv h v33 v1.toNat = z := ⟨_, rfl⟩
  have f39 := inL_J O e38
  obtain ⟨v40, e41⟩ : ∃ z, Rv h a0 9 = z := ⟨_, rfl⟩
  have t42 := ok_R O ta0 rE_12_9 e41
  have l43 := ok_L O ta0 rE_12_9 e41
  obtain ⟨v44, e45⟩ : ∃ z, Jv h v40 ((0 : Int).toNat) = z := ⟨_, rfl⟩
  have f46 := inL_J O e45
  rw [e5, e27, e2, e31, e34, e38, e41, e45] at p25
  refine g_if_eq C (iw f23 (by decide) (by decide)) 15 (by decide) dX12_readNext_5 (fun q47 => ?_) (fun q48 => ?_)
  · have f49 : (0 : Int) ≤ r17 ∧ r17 ≤ (0 : Int) := ii f23 (r_eq (il 0) q47) (by decide) (by decide)
    refine g_aload_n C rfl 0 rfl dX12_readNext_15 ?_
    refine g_iconst C dX12_readNext_16 ?_
    have e50 : Tg h18 a0 = 12 := (fxT F22 ta0)
    have e51 : Iv h18 a0 7 = v1 := ((fxI F22 ta0 rfl).trans e2)
    have e52 : Iv h18 a0 8 = v4 := ((fxI F22 ta0 rfl).trans e5)
    have e53 : Iv h18 a0 28 = v7 := ((fxI F22 ta0 rfl).trans e8)
    have p54 := (TK_fx O F22 ta0 rfl p10)
    have p55 := ((NT_fx O F22 ta0 rfl).trans e15)
    refine g_callI (st := []) (gc_V C lk_LandSurveyModel_330 (k_X12_isWord l D cy w z0 O21 e50 (iw (il 1) (by decide) (by decide)) ⟨p54, by rw [e51, p55]; omega, by rw [e52, e51, p55]; omega, by rw [e53, e51]; omega⟩) e50 rfl rfl rfl ⟨by decide, by decide⟩ (Nat.le_of_ble_eq_true rfl) dX12_readNext_17 ⟨(by decide), (by decide)⟩) (fun r56 h57 f59 K58 => ?_)
    obtain ⟨O60, F61, f62, p63, p64⟩ := K58
    rw [e52, e51, p55] at p63
    have e65 : Rv h18 a0 4 = v26 := ((fxR F22 ta0 rfl).trans e27)
    have e66 : Iv h18 v26 v1.toNat = v30 := ((fxIa F22 t28 ar_104100 rfl).trans e31)
    have e67 : Rv h18 a0 6 = v33 := ((fxR F22 ta0 rfl).trans e34)
    have e68 : Jv h18 v33 v1.toNat = v37 := ((fxJa F22 t35 ar_106102 rfl).trans e38)
    have e69 : Rv h18 a0 9 = v40 := ((fxR F22 ta0 rfl).trans e41)
    obtain ⟨v70, e71⟩ : ∃ z, Jv h18 v40 ((1 : Int).toNat) = z := ⟨_, rfl⟩
    have e72 : Tg h18 v40 = 109102 := (fxT F22 t42)
    have f73 := inL_J O21 e71
    rw [e52, e65, e51, e66, e67, e68, e69, e71] at p64
    refine g_if_ne C (iw f62 (by decide) (by decide)) 39 (by decide) dX12_readNext_20 (fun q74 => ?_) (fun q75 => ?_)
    · have f76 : (1 : Int) ≤ r56 ∧ r56 ≤ (1 : Int) := r_nl f62 q74
      refine g_aload_n C rfl 0 rfl dX12_readNext_39 ?_
      have e77 : Tg h57 a0 = 12 := (fxT F61 e50)
      have e78 : Iv h57 a0 7 = v1 := ((fxI F61 e50 rfl).trans e51)
      have e79 : Iv h57 a0 8 = v4 := ((fxI F61 e50 rfl).trans e52)
      have e80 : Iv h57 a0 28 = v7 := ((fxI F61 e50 rfl).trans e53)
      have p81 := (TK_fx O21 F61 e50 rfl p54)
      have p82 := ((NT_fx O21 F61 e50 rfl).trans p55)
      have p83 := (MInv_fx O21 F61 e50 rfl (MInv_fx O F22 ta0 rfl P_MInv))
      have p84 := (DLf_fx O21 F61 e50 rfl (DLf_fx O F22 ta0 rfl P_DLf))
      refine g_callV (st := []) (gc_V C lk_LandSurveyModel_368 (k_X12_readLine l D cy w z0 O60 e77 ⟨p81, by rw [e78, p82]; omega, by rw [e79, e78, p82]; omega, by rw [e80, e78]; omega⟩ (by rw [e79, e78, p82]; omega) p83 p84) e77 rfl rfl rfl ⟨by decide, by decide⟩ (Nat.le_of_ble_eq_true rfl) dX12_readNext_40 ⟨(by decide), (by decide)⟩) (fun h86 K87 => ?_)
      obtain ⟨O89, F90, p91, p92, p93, p94⟩ := K87
      obtain ⟨v95, e96⟩ : ∃ z, Iv h86 a0 7 = z := ⟨_, rfl⟩
      have e97 : Tg h86 a0 = 12 := (fxT F90 e77)
      have f98 := ok_I O89 e97 rI_12_7 e96
      obtain ⟨v99, e100⟩ : ∃ z, Iv h86 a0 8 = z := ⟨_, rfl⟩
      have f101 := ok_I O89 e97 rI_12_8 e100
      obtain ⟨v102, e103⟩ : ∃ z, Iv h86 a0 28 = z := ⟨_, rfl⟩
      have f104 := ok_I O89 e97 rI_12_28 e103
      obtain ⟨p105, p106, p107, p108⟩ := p91
      have p109 := ((NT_fx O60 F90 e77 rfl).trans p82)
      rw [e96, p109] at p106
      rw [e100, e96, p109] at p107
      rw [e103, e96] at p108
      have p110 := p92
      unfold ST at p110
      rw [e78, e96, e80, e103, e79, e100] at p110
      refine g_goto C 184 (by decide) dX12_readNext_43 ?_
      refine g_aload_n C rfl 0 rfl dX12_readNext_184 ?_
      refine g_bipush C (by decide) dX12_readNext_185 ?_
      refine g_callV (st := []) (gc_V C lk_LandSurveyModel_380 (k_X12_takeSign l D cy w z0 O89 e97 (iw (il 59) (by decide) (by decide)) ⟨p105, by rw [e96, p109]; omega, by rw [e100, e96, p109]; omega, by rw [e103, e96]; omega⟩) e97 rfl rfl rfl ⟨by decide, by decide⟩ (Nat.le_of_ble_eq_true rfl) dX12_readNext_187 ⟨(by decide), (by decide)⟩) (fun h112 K113 => ?_)
      obtain ⟨O115, F116, p117, p118, p119⟩ := K113
      obtain ⟨v120, e121⟩ : ∃ z, Iv h112 a0 7 = z := ⟨_, rfl⟩
      have e122 : Tg h112 a0 = 12 := (fxT F116 e97)
      have f123 := ok_I O115 e122 rI_12_7 e121
      obtain ⟨v124, e125⟩ : ∃ z, Iv h112 a0 8 = z := ⟨_, rfl⟩
      have f126 := ok_I O115 e122 rI_12_8 e125
      have e127 : Iv h112 a0 28 = v102 := ((fxI F116 e97 rfl).trans e103)
      obtain ⟨p128, p129, p130, p131⟩ := p117
      have p132 := ((NT_fx O89 F116 e97 rfl).trans p109)
      rw [e121, p132] at p129
      rw [e125, e121, p132] at p130
      rw [e127, e121] at p131
      have p133 := p118
      unfold ST at p133
      rw [e96, e121, e103, e127, e100, e125] at p133
      rw [e125, e121, e96] at p119
      have p134 := (MInv_fx O89 F116 e97 rfl p93)
      have p135 := (DLf_mono O89 F116 e97 rfl p118.2.2 p94)
      exact g_vret C hr ⟨O115, (((((Fx.rf (wr := wr_k_X12_readNext)).call F22 rfl).call F61 rfl).call F90 rfl).call F116 rfl), ⟨p128, by rw [e121, p132]; omega, by rw [e125, e121, p132]; omega, by rw [e127, e121]; omega⟩, (by unfold ST; rw [e2, e121, e8, e127, e5, e125]; omega), p134, p135, (by rw [e125, e2, e121]; omega)⟩ (by decide) (by decide) dX12_readNext_190
    · have f136 : (0 : Int) ≤ r56 ∧ r56 ≤ (0 : Int) := ii f62 (r_eq (il 0) q75) (by decide) (by decide)
      refine g_aload_n C rfl 0 rfl dX12_readNext_23 ?_
      refine g_iconst C dX12_readNext_24 ?_
      have e137 : Tg h57 a0 = 12 := (fxT F61 e50)
      have e138 : Iv h57 a0 7 = v1 := ((fxI F61 e50 rfl).trans e51)
      have e139 : Iv h57 a0 8 = v4 := ((fxI F61 e50 rfl).trans e52)
      have e140 : Iv h57 a0 28 = v7 := ((fxI F61 e50 rfl).trans e53)
      have p141 := (TK_fx O21 F61 e50 rfl p54)
      have p142 := ((NT_fx O21 F61 e50 rfl).trans p55)
      refine g_callI (st := []) (gc_V C lk_LandSurveyModel_330 (k_X12_isWord l D cy w z0 O60 e137 (iw (il 2) (by decide) (by decide)) ⟨p141, by rw [e138, p142]; omega, by rw [e139, e138, p142]; omega, by rw [e140, e138]; omega⟩) e137 rfl rfl rfl ⟨by decide, by decide⟩ (Nat.le_of_ble_eq_true rfl) dX12_readNext_25 ⟨(by decide), (by decide)⟩) (fun r143 h144 f146 K145 => ?_)
      obtain ⟨O147, F148, f149, p150, p151⟩ := K145
      rw [e139, e138, p142] at p150
      have e152 : Rv h57 a0 4 = v26 := ((fxR F61 e50 rfl).trans e65)
      have e153 : Tg h18 v26 = 104100 := (fxT F22 t28)
      have e154 : Iv h57 v26 v1.toNat = v30 := ((fxIa F61 e153 ar_104100 rfl).trans e66)
      have e155 : Rv h57 a0 6 = v33 := ((fxR F61 e50 rfl).trans e67)
      have e156 : Tg h18 v33 = 106102 := (fxT F22 t35)
      have e157 : Jv h57 v33 v1.toNat = v37 := ((fxJa F61 e156 ar_106102 rfl).trans e68)
      have e158 : Rv h57 a0 9 = v40 := ((fxR F61 e50 rfl).trans e69)
      obtain ⟨v159, e160⟩ : ∃ z, Jv h57 v40 ((2 : Int).toNat) = z := ⟨_, rfl⟩
      have e161 : Tg h57 v40 = 109102 := (fxT F61 e72)
      have f162 := inL_J O60 e160
      rw [e139, e152, e138, e154, e155, e157, e158, e160] at p151
      refine g_if_ne C (iw f149 (by decide) (by decide)) 39 (by decide) dX12_readNext_28 (fun q163 => ?_) (fun q164 => ?_)
      · have f165 : (1 : Int) ≤ r143 ∧ r143 ≤ (1 : Int) := r_nl f149 q163
        refine g_aload_n C rfl 0 rfl dX12_readNext_39 ?_
        have e166 : Tg h144 a0 = 12 := (fxT F148 e137)
        have e167 : Iv h144 a0 7 = v1 := ((fxI F148 e137 rfl).trans e138)
        have e168 : Iv h144 a0 8 = v4 := ((fxI F148 e137 rfl).trans e139)
        have e169 : Iv h144 a0 28 = v7 := ((fxI F148 e137 rfl).trans e140)
        have p170 := (TK_fx O60 F148 e137 rfl p141)
        have p171 := ((NT_fx O60 F148 e137 rfl).trans p142)
        have p172 := (MInv_fx O60 F148 e137 rfl (MInv_fx O21 F61 e50 rfl (MInv_fx O F22 ta0 rfl P_MInv)))
        have p173 := (DLf_fx O60 F148 e137 rfl (DLf_fx O21 F61 e50 rfl (DLf_fx O F22 ta0 rfl P_DLf)))
        refine g_callV (st := []) (gc_V C lk_LandSurveyModel_368 (k_X12_readLine l D cy w z0 O147 e166 ⟨p170, by rw [e167, p171]; omega, by rw [e168, e167, p171]; omega, by rw [e169, e167]; omega⟩ (by rw [e168, e167, p171]; omega) p172 p173) e166 rfl rfl rfl ⟨by decide, by decide⟩ (Nat.le_of_ble_eq_true rfl) dX12_readNext_40 ⟨(by decide), (by decide)⟩) (fun h175 K176 => ?_)
        obtain ⟨O178, F179, p180, p181, p182, p183⟩ := K176
        obtain ⟨v184, e185⟩ : ∃ z, Iv h175 a0 7 = z := ⟨_, rfl⟩
        have e186 : Tg h175 a0 = 12 := (fxT F179 e166)
        have f187 := ok_I O178 e186 rI_12_7 e185
        obtain ⟨v188, e189⟩ : ∃ z, Iv h175 a0 8 = z := ⟨_, rfl⟩
        have f190 := ok_I O178 e186 rI_12_8 e189
        obtain ⟨v191, e192⟩ : ∃ z, Iv h175 a0 28 = z := ⟨_, rfl⟩
        have f193 := ok_I O178 e186 rI_12_28 e192
        obtain ⟨p194, p195, p196, p197⟩ := p180
        have p198 := ((NT_fx O147 F179 e166 rfl).trans p171)
        rw [e185, p198] at p195
        rw [e189, e185, p198] at p196
        rw [e192, e185] at p197
        have p199 := p181
        unfold ST at p199
        rw [e167, e185, e169, e192, e168, e189] at p199
        refine g_goto C 184 (by decide) dX12_readNext_43 ?_
        refine g_aload_n C rfl 0 rfl dX12_readNext_184 ?_
        refine g_bipush C (by decide) dX12_readNext_185 ?_
        refine g_callV (st := []) (gc_V C lk_LandSurveyModel_380 (k_X12_takeSign l D cy w z0 O178 e186 (iw (il 59) (by decide) (by decide)) ⟨p194, by rw [e185, p198]; omega, by rw [e189, e185, p198]; omega, by rw [e192, e185]; omega⟩) e186 rfl rfl rfl ⟨by decide, by decide⟩ (Nat.le_of_ble_eq_true rfl) dX12_readNext_187 ⟨(by decide), (by decide)⟩) (fun h201 K202 => ?_)
        obtain ⟨O204, F205, p206, p207, p208⟩ := K202
        obtain ⟨v209, e210⟩ : ∃ z, Iv h201 a0 7 = z := ⟨_, rfl⟩
        have e211 : Tg h201 a0 = 12 := (fxT F205 e186)
        have f212 := ok_I O204 e211 rI_12_7 e210
        obtain ⟨v213, e214⟩ : ∃ z, Iv h201 a0 8 = z := ⟨_, rfl⟩
        have f215 := ok_I O204 e211 rI_12_8 e214
        have e216 : Iv h201 a0 28 = v191 := ((fxI F205 e186 rfl).trans e192)
        obtain ⟨p217, p218, p219, p220⟩ := p206
        have p221 := ((NT_fx O178 F205 e186 rfl).trans p198)
        rw [e210, p221] at p218
        rw [e214, e210, p221] at p219
        rw [e216, e210] at p220
        have p222 := p207
        unfold ST at p222
        rw [e185, e210, e192, e216, e189, e214] at p222
        rw [e214, e210, e185] at p208
        have p223 := (MInv_fx O178 F205 e186 rfl p182)
        have p224 := (DLf_mono O178 F205 e186 rfl p207.2.2 p183)
        exact g_vret C hr ⟨O204, ((((((Fx.rf (wr := wr_k_X12_readNext)).call F22 rfl).call F61 rfl).call F148 rfl).call F179 rfl).call F205 rfl), ⟨p217, by rw [e210, p221]; omega, by rw [e214, e210, p221]; omega, by rw [e216, e210]; omega⟩, (by unfold ST; rw [e2, e210, e8, e216, e5, e214]; omega), p223, p224, (by rw [e214, e2, e210]; omega)⟩ (by decide) (by decide) dX12_readNext_190
      · have f225 : (0 : Int) ≤ r143 ∧ r143 ≤ (0 : Int) := ii f149 (r_eq (il 0) q164) (by decide) (by decide)
        refine g_aload_n C rfl 0 rfl dX12_readNext_31 ?_
        refine g_iconst C dX12_readNext_32 ?_
        have e226 : Tg h144 a0 = 12 := (fxT F148 e137)
        have e227 : Iv h144 a0 7 = v1 := ((fxI F148 e137 rfl).trans e138)
        have e228 : Iv h144 a0 8 = v4 := ((fxI F148 e137 rfl).trans e139)
        have e229 : Iv h144 a0 28 = v7 := ((fxI F148 e137 rfl).trans e140)
        have p230 := (TK_fx O60 F148 e137 rfl p141)
        have p231 := ((NT_fx O60 F148 e137 rfl).trans p142)
        refine g_callI (st := []) (gc_V C lk_LandSurveyModel_330 (k_X12_isWord l D cy w z0 O147 e226 (iw (il 3) (by decide) (by decide)) ⟨p230, by rw [e227, p231]; omega, by rw [e228, e227, p231]; omega, by rw [e229, e227]; omega⟩) e226 rfl rfl rfl ⟨by decide, by decide⟩ (Nat.le_of_ble_eq_true rfl) dX12_readNext_33 ⟨(by decide), (by decide)⟩) (fun r232 h233 f235 K234 => ?_)
        obtain ⟨O236, F237, f238, p239, p240⟩ := K234
        rw [e228, e227, p231] at p239
        have e241 : Rv h144 a0 4 = v26 := ((fxR F148 e137 rfl).trans e152)
        have e242 : Tg h57 v26 = 104100 := (fxT F61 e153)
        have e243 : Iv h144 v26 v1.toNat = v30 := ((fxIa F148 e242 ar_104100 rfl).trans e154)
        have e244 : Rv h144 a0 6 = v33 := ((fxR F148 e137 rfl).trans e155)
        have e245 : Tg h57 v33 = 106102 := (fxT F61 e156)
        have e246 : Jv h144 v33 v1.toNat = v37 := ((fxJa F148 e245 ar_106102 rfl).trans e157)
        have e247 : Rv h144 a0 9 = v40 := ((fxR F148 e137 rfl).trans e158)
        obtain ⟨v248, e249⟩ : ∃ z, Jv h144 v40 ((3 : Int).toNat) = z := ⟨_, rfl⟩
        have e250 : Tg h144 v40 = 109102 := (fxT F148 e161)
        have f251 := inL_J O147 e249
        rw [e228, e241, e227, e243, e244, e246, e247, e249] at p240
        refine g_if_eq C (iw f238 (by decide) (by decide)) 46 (by decide) dX12_readNext_36 (fun q252 => ?_) (fun q253 => ?_)
        · have f254 : (0 : Int) ≤ r232 ∧ r232 ≤ (0 : Int) := ii f238 (r_eq (il 0) q252) (by decide) (by decide)
          refine g_aload_n C rfl 0 rfl dX12_readNext_46 ?_
          refine g_iconst C dX12_readNext_47 ?_
          have e255 : Tg h233 a0 = 12 := (fxT F237 e226)
          have e256 : Iv h233 a0 7 = v1 := ((fxI F237 e226 rfl).trans e227)
          have e257 : Iv h233 a0 8 = v4 := ((fxI F237 e226 rfl).trans e228)
          have e258 : Iv h233 a0 28 = v7 := ((fxI F237 e226 rfl).trans e229)
          have p259 := (TK_fx O147 F237 e226 rfl p230)
          have p260 := ((NT_fx O147 F237 e226 rfl).trans p231)
          refine g_callI (st := []) (gc_V C lk_LandSurveyModel_330 (k_X12_isWord l D cy w z0 O236 e255 (iw (il 4) (by decide) (by decide)) ⟨p259, by rw [e256, p260]; omega, by rw [e257, e256, p260]; omega, by rw [e258, e256]; omega⟩) e255 rfl rfl rfl ⟨by decide, by decide⟩ (Nat.le_of_ble_eq_true rfl) dX12_readNext_48 ⟨(by decide), (by decide)⟩) (fun r261 h262 f264 K263 => ?_)
          obtain ⟨O265, F266, f267, p268, p269⟩ := K263
          rw [e257, e256, p260] at p268
          have e270 : Rv h233 a0 4 = v26 := ((fxR F237 e226 rfl).trans e241)
          have e271 : Tg h144 v26 = 104100 := (fxT F148 e242)
          have e272 : Iv h233 v26 v1.toNat = v30 := ((fxIa F237 e271 ar_104100 rfl).trans e243)
          have e273 : Rv h233 a0 6 = v33 := ((fxR F237 e226 rfl).trans e244)
          have e274 : Tg h144 v33 = 106102 := (fxT F148 e245)
          have e275 : Jv h233 v33 v1.toNat = v37 := ((fxJa F237 e274 ar_106102 rfl).trans e246)
          have e276 : Rv h233 a0 9 = v40 := ((fxR F237 e226 rfl).trans e247)
          obtain ⟨v277, e278⟩ : ∃ z, Jv h233 v40 ((4 : Int).toNat) = z := ⟨_, rfl⟩
          have e279 : Tg h233 v40 = 109102 := (fxT F237 e250)
          have f280 := inL_J O236 e278
          rw [e257, e270, e256, e272, e273, e275, e276, e278] at p269
          refine g_if_ne C (iw f267 (by decide) (by decide)) 62 (by decide) dX12_readNext_51 (fun q281 => ?_) (fun q282 => ?_)
          · have f283 : (1 : Int) ≤ r261 ∧ r261 ≤ (1 : Int) := r_nl f267 q281
            refine g_aload_n C rfl 0 rfl dX12_readNext_62 ?_
            have e284 : Tg h262 a0 = 12 := (fxT F266 e255)
            have e285 : Iv h262 a0 7 = v1 := ((fxI F266 e255 rfl).trans e256)
            have e286 : Iv h262 a0 8 = v4 := ((fxI F266 e255 rfl).trans e257)
            have e287 : Iv h262 a0 28 = v7 := ((fxI F266 e255 rfl).trans e258)
            have p288 := (TK_fx O236 F266 e255 rfl p259)
            have p289 := ((NT_fx O236 F266 e255 rfl).trans p260)
            refine g_callV (st := []) (gc_V C lk_LandSurveyModel_371 (k_X12_readBound l D cy w z0 O265 e284 ⟨p288, by rw [e285, p289]; omega, by rw [e286, e285, p289]; omega, by rw [e287, e285]; omega⟩ (by rw [e286, e285, p289]; omega)) e284 rfl rfl rfl ⟨by decide, by decide⟩ (Nat.le_of_ble_eq_true rfl) dX12_readNext_63 ⟨(by decide), (by decide)⟩) (fun h291 K292 => ?_)
            obtain ⟨O294, F295, p296, p297⟩ := K292
            obtain ⟨v298, e299⟩ : ∃ z, Iv h291 a0 7 = z := ⟨_, rfl⟩
            have e300 : Tg h291 a0 = 12 := (fxT F295 e284)
            have f301 := ok_I O294 e300 rI_12_7 e299
            obtain ⟨v302, e303⟩ : ∃ z, Iv h291 a0 8 = z := ⟨_, rfl⟩
            have f304 := ok_I O294 e300 rI_12_8 e303
            have e305 : Iv h291 a0 28 = v7 := ((fxI F295 e284 rfl).trans e287)
            obtain ⟨p306, p307, p308, p309⟩ := p296
            have p310 := ((NT_fx O265 F295 e284 rfl).trans p289)
            rw [e299, p310] at p307
            rw [e303, e299, p310] at p308
            rw [e305, e299] at p309
            have p311 := p297
            unfold ST at p311
            rw [e285, e299, e287, e305, e286, e303] at p311
            refine g_goto C 184 (by decide) dX12_readNext_66 ?_
            refine g_aload_n C rfl 0 rfl dX12_readNext_184 ?_
            refine g_bipush C (by decide) dX12_readNext_185 ?_
            refine g_callV (st := []) (gc_V C lk_LandSurveyModel_380 (k_X12_takeSign l D cy w z0 O294 e300 (iw (il 59) (by decide) (by decide)) ⟨p306, by rw [e299, p310]; omega, by rw [e303, e299, p310]; omega, by rw [e305, e299]; omega⟩) e300 rfl rfl rfl ⟨by decide, by decide⟩ (Nat.le_of_ble_eq_true rfl) dX12_readNext_187 ⟨(by decide), (by decide)⟩) (fun h313 K314 => ?_)
            obtain ⟨O316, F317, p318, p319, p320⟩ := K314
            obtain ⟨v321, e322⟩ : ∃ z, Iv h313 a0 7 = z := ⟨_, rfl⟩
            have e323 : Tg h313 a0 = 12 := (fxT F317 e300)
            have f324 := ok_I O316 e323 rI_12_7 e322
            obtain ⟨v325, e326⟩ : ∃ z, Iv h313 a0 8 = z := ⟨_, rfl⟩
            have f327 := ok_I O316 e323 rI_12_8 e326
            have e328 : Iv h313 a0 28 = v7 := ((fxI F317 e300 rfl).trans e305)
            obtain ⟨p329, p330, p331, p332⟩ := p318
            have p333 := ((NT_fx O294 F317 e300 rfl).trans p310)
            rw [e322, p333] at p330
            rw [e326, e322, p333] at p331
            rw [e328, e322] at p332
            have p334 := p319
            unfold ST at p334
            rw [e299, e322, e305, e328, e303, e326] at p334
            rw [e326, e322, e299] at p320
            have p335 := (MInv_fx O294 F317 e300 rfl (MInv_fx O265 F295 e284 rfl (MInv_fx O236 F266 e255 rfl (MInv_fx O147 F237 e226 rfl (MInv_fx O60 F148 e137 rfl (MInv_fx O21 F61 e50 rfl (MInv_fx O F22 ta0 rfl P_MInv)))))))
            have p336 := (DLf_mono O294 F317 e300 rfl p319.2.2 (DLf_mono O265 F295 e284 rfl p297.2.2 (DLf_fx O236 F266 e255 rfl (DLf_fx O147 F237 e226 rfl (DLf_fx O60 F148 e137 rfl (DLf_fx O21 F61 e50 rfl (DLf_fx O F22 ta0 rfl P_DLf)))))))
            exact g_vret C hr ⟨O316, ((((((((Fx.rf (wr := wr_k_X12_readNext)).call F22 rfl).call F61 rfl).call F148 rfl).call F237 rfl).call F266 rfl).call F295 rfl).call F317 rfl), ⟨p329, by rw [e322, p333]; omega, by rw [e326, e322, p333]; omega, by rw [e328, e322]; omega⟩, (by unfold ST; rw [e2, e322, e8, e328, e5, e326]; omega), p335, p336, (by rw [e326, e2, e322]; omega)⟩ (by decide) (by decide) dX12_readNext_190
          · have f337 : (0 : Int) ≤ r261 ∧ r261 ≤ (0 : Int) := ii f267 (r_eq (il 0) q282) (by decide) (by decide)
            refine g_aload_n C rfl 0 rfl dX12_readNext_54 ?_
            refine g_iconst C dX12_readNext_55 ?_
            have e338 : Tg h262 a0 = 12 := (fxT F266 e255)
            have e339 : Iv h262 a0 7 = v1 := ((fxI F266 e255 rfl).trans e256)
            have e340 : Iv h262 a0 8 = v4 := ((fxI F266 e255 rfl).trans e257)
            have e341 : Iv h262 a0 28 = v7 := ((fxI F266 e255 rfl).trans e258)
            have p342 := (TK_fx O236 F266 e255 rfl p259)
            have p343 := ((NT_fx O236 F266 e255 rfl).trans p260)
            refine g_callI (st := []) (gc_V C lk_LandSurveyModel_330 (k_X12_isWord l D cy w z0 O265 e338 (iw (il 5) (by decide) (by decide)) ⟨p342, by rw [e339, p343]; omega, by rw [e340, e339, p343]; omega, by rw [e341, e339]; omega⟩) e338 rfl rfl rfl ⟨by decide, by decide⟩ (Nat.le_of_ble_eq_true rfl) dX12_readNext_56 ⟨(by decide), (by decide)⟩) (fun r344 h345 f347 K346 => ?_)
            obtain ⟨O348, F349, f350, p351, p352⟩ := K346
            rw [e340, e339, p343] at p351
            have e353 : Rv h262 a0 4 = v26 := ((fxR F266 e255 rfl).trans e270)
            have e354 : Tg h233 v26 = 104100 := (fxT F237 e271)
            have e355 : Iv h262 v26 v1.toNat = v30 := ((fxIa F266 e354 ar_104100 rfl).trans e272)
            have e356 : Rv h262 a0 6 = v33 := ((fxR F266 e255 rfl).trans e273)
            have e357 : Tg h233 v33 = 106102 := (fxT F237 e274)
            have e358 : Jv h262 v33 v1.toNat = v37 := ((fxJa F266 e357 ar_106102 rfl).trans e275)
            have e359 : Rv h262 a0 9 = v40 := ((fxR F266 e255 rfl).trans e276)
            obtain ⟨v360, e361⟩ : ∃ z, Jv h262 v40 ((5 : Int).toNat) = z := ⟨_, rfl⟩
            have e362 : Tg h262 v40 = 109102 := (fxT F266 e279)
            have f363 := inL_J O265 e361
            rw [e340, e353, e339, e355, e356, e358, e359, e361] at p352
            refine g_if_eq C (iw f350 (by decide) (by decide)) 69 (by decide) dX12_readNext_59 (fun q364 => ?_) (fun q365 => ?_)
            · have f366 : (0 : Int) ≤ r344 ∧ r344 ≤ (0 : Int) := ii f350 (r_eq (il 0) q364) (by decide) (by decide)
              refine g_aload_n C rfl 0 rfl dX12_readNext_69 ?_
              refine g_bipush C (by decide) dX12_readNext_70 ?_
              have e367 : Tg h345 a0 = 12 := (fxT F349 e338)
              have e368 : Iv h345 a0 7 = v1 := ((fxI F349 e338 rfl).trans e339)
              have e369 : Iv h345 a0 8 = v4 := ((fxI F349 e338 rfl).trans e340)
              have e370 : Iv h345 a0 28 = v7 := ((fxI F349 e338 rfl).trans e341)
              have p371 := (TK_fx O265 F349 e338 rfl p342)
              have p372 := ((NT_fx O265 F349 e338 rfl).trans p343)
              refine g_callI (st := []) (gc_V C lk_LandSurveyModel_330 (k_X12_isWord l D cy w z0 O348 e367 (iw (il 6) (by decide) (by decide)) ⟨p371, by rw [e368, p372]; omega, by rw [e369, e368, p372]; omega, by rw [e370, e368]; omega⟩) e367 rfl rfl rfl ⟨by decide, by decide⟩ (Nat.le_of_ble_eq_true rfl) dX12_readNext_72 ⟨(by decide), (by decide)⟩) (fun r373 h374 f376 K375 => ?_)
              obtain ⟨O377, F378, f379, p380, p381⟩ := K375
              rw [e369, e368, p372] at p380
              have e382 : Rv h345 a0 4 = v26 := ((fxR F349 e338 rfl).trans e353)
              have e383 : Tg h262 v26 = 104100 := (fxT F266 e354)
              have e384 : Iv h345 v26 v1.toNat = v30 := ((fxIa F349 e383 ar_104100 rfl).trans e355)
              have e385 : Rv h345 a0 6 = v33 := ((fxR F349 e338 rfl).trans e356)
              have e386 : Tg h262 v33 = 106102 := (fxT F266 e357)
              have e387 : Jv h345 v33 v1.toNat = v37 := ((fxJa F349 e386 ar_106102 rfl).trans e358)
              have e388 : Rv h345 a0 9 = v40 := ((fxR F349 e338 rfl).trans e359)
              obtain ⟨v389, e390⟩ : ∃ z, Jv h345 v40 ((6 : Int).toNat) = z := ⟨_, rfl⟩
              have e391 : Tg h345 v40 = 109102 := (fxT F349 e362)
              have f392 := inL_J O348 e390
              rw [e369, e382, e368, e384, e385, e387, e388, e390] at p381
              refine g_if_ne C (iw f379 (by decide) (by decide)) 87 (by decide) dX12_readNext_75 (fun q393 => ?_) (fun q394 => ?_)
              · have f395 : (1 : Int) ≤ r373 ∧ r373 ≤ (1 : Int) := r_nl f379 q393
                refine g_aload_n C rfl 0 rfl dX12_readNext_87 ?_
                refine g_bipush C (by decide) dX12_readNext_88 ?_
                have e396 : Tg h374 a0 = 12 := (fxT F378 e367)
                have e397 : Iv h374 a0 7 = v1 := ((fxI F378 e367 rfl).trans e368)
                have e398 : Iv h374 a0 8 = v4 := ((fxI F378 e367 rfl).trans e369)
                have e399 : Iv h374 a0 28 = v7 := ((fxI F378 e367 rfl).trans e370)
                have p400 := (TK_fx O348 F378 e367 rfl p371)
                have p401 := ((NT_fx O348 F378 e367 rfl).trans p372)
                refine g_callI (st := []) (gc_V C lk_LandSurveyModel_330 (k_X12_isWord l D cy w z0 O377 e396 (iw (il 7) (by decide) (by decide)) ⟨p400, by rw [e397, p401]; omega, by rw [e398, e397, p401]; omega, by rw [e399, e397]; omega⟩) e396 rfl rfl rfl ⟨by decide, by decide⟩ (Nat.le_of_ble_eq_true rfl) dX12_readNext_90 ⟨(by decide), (by decide)⟩) (fun r402 h403 f405 K404 => ?_)
                obtain ⟨O406, F407, f408, p409, p410⟩ := K404
                rw [e398, e397, p401] at p409
                have e411 : Rv h374 a0 4 = v26 := ((fxR F378 e367 rfl).trans e382)
                have e412 : Tg h345 v26 = 104100 := (fxT F349 e383)
                have e413 : Iv h374 v26 v1.toNat = v30 := ((fxIa F378 e412 ar_104100 rfl).trans e384)
                have e414 : Rv h374 a0 6 = v33 := ((fxR F378 e367 rfl).trans e385)
                have e415 : Tg h345 v33 = 106102 := (fxT F349 e386)
                have e416 : Jv h374 v33 v1.toNat = v37 := ((fxJa F378 e415 ar_106102 rfl).trans e387)
                have e417 : Rv h374 a0 9 = v40 := ((fxR F378 e367 rfl).trans e388)
                obtain ⟨v418, e419⟩ : ∃ z, Jv h374 v40 ((7 : Int).toNat) = z := ⟨_, rfl⟩
                have e420 : Tg h374 v40 = 109102 := (fxT F378 e391)
                have f421 := inL_J O377 e419
                rw [e398, e411, e397, e413, e414, e416, e417, e419] at p410
                refine g_istore_n C [(1, .inl r402), (0, .inr (.inr a0))] rfl (by decide) rfl dX12_readNext_93 ?_
                refine g_aload_n C rfl 1 rfl dX12_readNext_94 ?_
                refine g_dup C rfl dX12_readNext_95 ?_
                have e422 : Tg h403 a0 = 12 := (fxT F407 e396)
                have e423 : Iv h403 a0 7 = v1 := ((fxI F407 e396 rfl).trans e397)
                refine gf_I C fk_LandSurveyModel_317 rfl e422 e423 dX12_readNext_96 ?_
                refine g_iconst C dX12_readNext_99 ?_
                have f424 : (1 : Int) ≤ (v1 + 1) ∧ (v1 + 1) ≤ (1502 : Int) := ia_add f3 (il 1) (by decide) (by decide)
                refine g_iadd C dX12_readNext_100 ?_
                refine gp_I C fk_LandSurveyModel_317 pk_LandSurveyModel_7 rfl e422 (iw f424 (by decide) (by decide)) (nf_i _) dX12_readNext_101 (fun h426 hh425 => ?_)
                have O427 := O406.pI e422 hh425 rI_12_7 (by omega) nofun
                refine g_bipush C (by decide) dX12_readNext_104 ?_
                refine g_aload_n C rfl 1 rfl dX12_readNext_106 ?_
                have e428 : Tg h426 a0 = 12 := ((pIT hh425).trans e422)
                have e429 : Iv h426 a0 8 = v4 := ((pI_j hh425 (by decide)).trans ((fxI F407 e396 rfl).trans e398))
                have e430 : Iv h426 a0 28 = v7 := ((pI_j hh425 (by decide)).trans ((fxI F407 e396 rfl).trans e399))
                have p431 := (TK_fx O406 ((Fx.rf (wr := [2407]) (h := h403)).pI e422 hh425 rfl) e422 rfl (TK_fx O377 F407 e396 rfl p400))
                have p432 := ((NT_fx O406 ((Fx.rf (wr := [2407]) (h := h403)).pI e422 hh425 rfl) e422 rfl).trans ((NT_fx O377 F407 e396 rfl).trans p401))
                refine g_callI (st := [.inl 80]) (gc_V C lk_LandSurveyModel_374 (k_X12_takeRock l D cy w z0 O427 e428 ⟨p431, by rw [(pI_e hh425), p432]; omega, by rw [e429, (pI_e hh425), p432]; omega, by rw [e430, (pI_e hh425)]; omega⟩) e428 rfl rfl rfl ⟨by decide, by decide⟩ (Nat.le_of_ble_eq_true rfl) dX12_readNext_107 ⟨(by decide), (by decide)⟩) (fun r433 h434 f436 K435 => ?_)
                obtain ⟨O437, F438, f439, p440, p441⟩ := K435
                obtain ⟨v442, e443⟩ : ∃ z, Iv h434 a0 7 = z := ⟨_, rfl⟩
                have e444 : Tg h434 a0 = 12 := (fxT F438 e428)
                have f445 := ok_I O437 e444 rI_12_7 e443
                obtain ⟨v446, e447⟩ : ∃ z, Iv h434 a0 8 = z := ⟨_, rfl⟩
                have f448 := ok_I O437 e444 rI_12_8 e447
                have e449 : Iv h434 a0 28 = v7 := ((fxI F438 e428 rfl).trans e430)
                obtain ⟨p450, p451, p452, p453⟩ := p440
                have p454 := ((NT_fx O427 F438 e428 rfl).trans p432)
                rw [e443, p454] at p451
                rw [e447, e443, p454] at p452
                rw [e449, e443] at p453
                have p455 := p441
                unfold ST at p455
                rw [(pI_e hh425), e443, e430, e449, e429, e447] at p455
                have f456 : (80 : Int) ≤ (80 + r433) ∧ (80 + r433) ≤ (89 : Int) := ia_add (il 80) f439 (by decide) (by decide)
                refine g_iadd C dX12_readNext_110 ?_
                refine g_istore_n C [(2, .inl (80 + r433)), (1, .inl r402), (0, .inr (.inr a0))] rfl (by decide) rfl dX12_readNext_111 ?_
                refine g_aload_n C rfl 2 rfl dX12_readNext_112 ?_
                obtain ⟨v457, e458⟩ : ∃ z, Rv h434 a0 17 = z := ⟨_, rfl⟩
                have t459 := ok_R O437 e444 rE_12_17 e458
                have l460 := ok_L O437 e444 rE_12_17 e458
                refine gf_R C fk_LandSurveyModel_116 rfl e444 e458 dX12_readNext_113 ?_
                refine g_iload_n C rfl 0 rfl dX12_readNext_116 ?_
                refine g_aload_n C rfl 2 rfl dX12_readNext_117 ?_
                refine gf_R C fk_LandSurveyModel_116 rfl e444 e458 dX12_readNext_118 ?_
                refine g_iload_n C rfl 0 rfl dX12_readNext_121 ?_
                obtain ⟨v461, e462⟩ : ∃ z, Iv h434 v457 ((80 + r433).toNat) = z := ⟨_, rfl⟩
                have f463 := ok_Ia O437 t459 ar_117101 rI_117101_0 e462
                refine g_zald C t459 rfl l460 (ix f456 (by decide) (by decide)) e462 dX12_readNext_122 ?_
                refine g_if_ne C (iw f463 (by decide) (by decide)) 130 (by decide) dX12_readNext_123 (fun q464 => ?_) (fun q465 => ?_)
                · have f466 : (1 : Int) ≤ v461 ∧ v461 ≤ (1 : Int) := r_nl f463 q464
                  refine g_iconst C dX12_readNext_130 ?_
                  refine g_goto C 135 (by decide) dX12_readNext_131 ?_
                  refine g_zast C t459 rfl l460 (ix f456 (by decide) (by decide)) (iw (il 1) (by decide) (by decide)) dX12_readNext_135 (fun h468 hh467 => ?_)
                  have O469 := O437.pIa t459 ar_117101 hh467 rI_117101_0 (iw (il 1) (by decide) (by decide)) nofun
                  refine g_aload_n C rfl 2 rfl dX12_readNext_136 ?_
                  have e470 : Tg h468 a0 = 12 := ((pIT hh467).trans e444)
                  obtain ⟨v471, e472⟩ : ∃ z, Rv h468 a0 16 = z := ⟨_, rfl⟩
                  have t473 := ok_R O469 e470 rE_12_16 e472
                  have l474 := ok_L O469 e470 rE_12_16 e472
                  refine gf_R C fk_LandSurveyModel_112 rfl e470 e472 dX12_readNext_137 ?_
                  refine g_iload_n C rfl 0 rfl dX12_readNext_140 ?_
                  refine g_aload_n C rfl 2 rfl dX12_readNext_141 ?_
                  refine gf_R C fk_LandSurveyModel_112 rfl e470 e472 dX12_readNext_142 ?_
                  refine g_iload_n C rfl 0 rfl dX12_readNext_145 ?_
                  obtain ⟨v475, e476⟩ : ∃ z, Iv h468 v471 ((80 + r433).toNat) = z := ⟨_, rfl⟩
                  have f477 := ok_Ia O469 t473 ar_116101 rI_116101_0 e476
                  refine g_zald C t473 rfl l474 (ix f456 (by decide) (by decide)) e476 dX12_readNext_146 ?_
                  refine g_if_ne C (iw f477 (by decide) (by decide)) 154 (by decide) dX12_readNext_147 (fun q478 => ?_) (fun q479 => ?_)
                  · have f480 : (1 : Int) ≤ v475 ∧ v475 ≤ (1 : Int) := r_nl f477 q478
                    refine g_iconst C dX12_readNext_154 ?_
                    refine g_goto C 159 (by decide) dX12_readNext_155 ?_
                    refine g_zast C t473 rfl l474 (ix f456 (by decide) (by decide)) (iw (il 1) (by decide) (by decide)) dX12_readNext_159 (fun h482 hh481 => ?_)
                    have O483 := O469.pIa t473 ar_116101 hh481 rI_116101_0 (iw (il 1) (by decide) (by decide)) nofun
                    refine g_goto C 184 (by decide) dX12_readNext_160 ?_
                    refine g_aload_n C rfl 2 rfl dX12_readNext_184 ?_
                    refine g_bipush C (by decide) dX12_readNext_185 ?_
                    have e484 : Tg h482 a0 = 12 := ((pIT hh481).trans e470)
                    have e485 : Iv h482 a0 7 = v442 := ((pI_n hh481 (ne_tag e470 t473 (by decide))).trans ((pI_n hh467 (ne_tag e444 t459 (by decide))).trans e443))
                    have e486 : Iv h482 a0 8 = v446 := ((pI_n hh481 (ne_tag e470 t473 (by decide))).trans ((pI_n hh467 (ne_tag e444 t459 (by decide))).trans e447))
                    have e487 : Iv h482 a0 28 = v7 := ((pI_n hh481 (ne_tag e470 t473 (by decide))).trans ((pI_n hh467 (ne_tag e444 t459 (by decide))).trans e449))
                    have p488 := (TK_fx O469 ((Fx.rf (wr := [23220200]) (h := h468)).pIa t473 ar_116101 hh481 rfl) e470 rfl (TK_fx O437 ((Fx.rf (wr := [23420200]) (h := h434)).pIa t459 ar_117101 hh467 rfl) e444 rfl p450))
                    have p489 := ((NT_fx O469 ((Fx.rf (wr := [23220200]) (h := h468)).pIa t473 ar_116101 hh481 rfl) e470 rfl).trans ((NT_fx O437 ((Fx.rf (wr := [23420200]) (h := h434)).pIa t459 ar_117101 hh467 rfl) e444 rfl).trans p454))
                    refine g_callV (st := []) (gc_V C lk_LandSurveyModel_380 (k_X12_takeSign l D cy w z0 O483 e484 (iw (il 59) (by decide) (by decide)) ⟨p488, by rw [e485, p489]; omega, by rw [e486, e485, p489]; omega, by rw [e487, e485]; omega⟩) e484 rfl rfl rfl ⟨by decide, by decide⟩ (Nat.le_of_ble_eq_true rfl) dX12_readNext_187 ⟨(by decide), (by decide)⟩) (fun h491 K492 => ?_)
                    obtain ⟨O494, F495, p496, p497, p498⟩ := K492
                    obtain ⟨v499, e500⟩ : ∃ z, Iv h491 a0 7 = z := ⟨_, rfl⟩
                    have e501 : Tg h491 a0 = 12 := (fxT F495 e484)
                    have f502 := ok_I O494 e501 rI_12_7 e500
                    obtain ⟨v503, e504⟩ : ∃ z, Iv h491 a0 8 = z := ⟨_, rfl⟩
                    have f505 := ok_I O494 e501 rI_12_8 e504
                    have e506 : Iv h491 a0 28 = v7 := ((fxI F495 e484 rfl).trans e487)
                    obtain ⟨p507, p508, p509, p510⟩ := p496
                    have p511 := ((NT_fx O483 F495 e484 rfl).trans p489)
                    rw [e500, p511] at p508
                    rw [e504, e500, p511] at p509
                    rw [e506, e500] at p510
                    have p512 := p497
                    unfold ST at p512
                    rw [e485, e500, e487, e506, e486, e504] at p512
                    rw [e504, e500, e485] at p498
                    have p513 := (MInv_fx O483 F495 e484 rfl (MInv_fx O469 ((Fx.rf (wr := [23220200]) (h := h468)).pIa t473 ar_116101 hh481 rfl) e470 rfl (MInv_fx O437 ((Fx.rf (wr := [23420200]) (h := h434)).pIa t459 ar_117101 hh467 rfl) e444 rfl (MInv_fx O427 F438 e428 rfl (MInv_fx O406 ((Fx.rf (wr := [2407]) (h := h403)).pI e422 hh425 rfl) e422 rfl (MInv_fx O377 F407 e396 rfl (MInv_fx O348 F378 e367 rfl (MInv_fx O265 F349 e338 rfl (MInv_fx O236 F266 e255 rfl (MInv_fx O147 F237 e226 rfl (MInv_fx O60 F148 e137 rfl (MInv_fx O21 F61 e50 rfl (MInv_fx O F22 ta0 rfl P_MInv)))))))))))))
                    have p514 := (DLf_mono O483 F495 e484 rfl p497.2.2 (DLf_fx O469 ((Fx.rf (wr := [23220200]) (h := h468)).pIa t473 ar_116101 hh481 rfl) e470 rfl (DLf_fx O437 ((Fx.rf (wr := [23420200]) (h := h434)).pIa t459 ar_117101 hh467 rfl) e444 rfl (DLf_mono O427 F438 e428 rfl p441.2.2 (DLf_fx O406 ((Fx.rf (wr := [2407]) (h := h403)).pI e422 hh425 rfl) e422 rfl (DLf_fx O377 F407 e396 rfl (DLf_fx O348 F378 e367 rfl (DLf_fx O265 F349 e338 rfl (DLf_fx O236 F266 e255 rfl (DLf_fx O147 F237 e226 rfl (DLf_fx O60 F148 e137 rfl (DLf_fx O21 F61 e50 rfl (DLf_fx O F22 ta0 rfl P_DLf)))))))))))))
                    exact g_vret C hr ⟨O494, ((((((((((((((Fx.rf (wr := wr_k_X12_readNext)).call F22 rfl).call F61 rfl).call F148 rfl).call F237 rfl).call F266 rfl).call F349 rfl).call F378 rfl).call F407 rfl).pI e422 hh425 rfl).call F438 rfl).pIa t459 ar_117101 hh467 rfl).pIa t473 ar_116101 hh481 rfl).call F495 rfl), ⟨p507, by rw [e500, p511]; omega, by rw [e504, e500, p511]; omega, by rw [e506, e500]; omega⟩, (by unfold ST; rw [e2, e500, e8, e506, e5, e504]; omega), p513, p514, (by rw [e504, e2, e500]; omega)⟩ (by decide) (by decide) dX12_readNext_190
                  · have f515 : (0 : Int) ≤ v475 ∧ v475 ≤ (0 : Int) := ii f477 (r_eq (il 0) q479) (by decide) (by decide)
                    refine g_iload_n C rfl 1 rfl dX12_readNext_150 ?_
                    refine g_if_ne C (iw f408 (by decide) (by decide)) 158 (by decide) dX12_readNext_151 (fun q516 => ?_) (fun q517 => ?_)
                    · have f518 : (1 : Int) ≤ r402 ∧ r402 ≤ (1 : Int) := r_nl f408 q516
                      refine g_iconst C dX12_readNext_158 ?_
                      refine g_zast C t473 rfl l474 (ix f456 (by decide) (by decide)) (iw (il 0) (by decide) (by decide)) dX12_readNext_159 (fun h520 hh519 => ?_)
                      have O521 := O469.pIa t473 ar_116101 hh519 rI_116101_0 (iw (il 0) (by decide) (by decide)) nofun
                      refine g_goto C 184 (by decide) dX12_readNext_160 ?_
                      refine g_aload_n C rfl 2 rfl dX12_readNext_184 ?_
                      refine g_bipush C (by decide) dX12_readNext_185 ?_
                      have e522 : Tg h520 a0 = 12 := ((pIT hh519).trans e470)
                      have e523 : Iv h520 a0 7 = v442 := ((pI_n hh519 (ne_tag e470 t473 (by decide))).trans ((pI_n hh467 (ne_tag e444 t459 (by decide))).trans e443))
                      have e524 : Iv h520 a0 8 = v446 := ((pI_n hh519 (ne_tag e470 t473 (by decide))).trans ((pI_n hh467 (ne_tag e444 t459 (by decide))).trans e447))
                      have e525 : Iv h520 a0 28 = v7 := ((pI_n hh519 (ne_tag e470 t473 (by decide))).trans ((pI_n hh467 (ne_tag e444 t459 (by decide))).trans e449))
                      have p526 := (TK_fx O469 ((Fx.rf (wr := [23220200]) (h := h468)).pIa t473 ar_116101 hh519 rfl) e470 rfl (TK_fx O437 ((Fx.rf (wr := [23420200]) (h := h434)).pIa t459 ar_117101 hh467 rfl) e444 rfl p450))
                      have p527 := ((NT_fx O469 ((Fx.rf (wr := [23220200]) (h := h468)).pIa t473 ar_116101 hh519 rfl) e470 rfl).trans ((NT_fx O437 ((Fx.rf (wr := [23420200]) (h := h434)).pIa t459 ar_117101 hh467 rfl) e444 rfl).trans p454))
                      refine g_callV (st := []) (gc_V C lk_LandSurveyModel_380 (k_X12_takeSign l D cy w z0 O521 e522 (iw (il 59) (by decide) (by decide)) ⟨p526, by rw [e523, p527]; omega, by rw [e524, e523, p527]; omega, by rw [e525, e523]; omega⟩) e522 rfl rfl rfl ⟨by decide, by decide⟩ (Nat.le_of_ble_eq_true rfl) dX12_readNext_187 ⟨(by decide), (by decide)⟩) (fun h529 K530 => ?_)
                      obtain ⟨O532, F533, p534, p535, p536⟩ := K530
                      obtain ⟨v537, e538⟩ : ∃ z, Iv h529 a0 7 = z := ⟨_, rfl⟩
                      have e539 : Tg h529 a0 = 12 := (fxT F533 e522)
                      have f540 := ok_I O532 e539 rI_12_7 e538
                      obtain ⟨v541, e542⟩ : ∃ z, Iv h529 a0 8 = z := ⟨_, rfl⟩
                      have f543 := ok_I O532 e539 rI_12_8 e542
                      have e544 : Iv h529 a0 28 = v7 := ((fxI F533 e522 rfl).trans e525)
                      obtain ⟨p545, p546, p547, p548⟩ := p534
                      have p549 := ((NT_fx O521 F533 e522 rfl).trans p527)
                      rw [e538, p549] at p546
                      rw [e542, e538, p549] at p547
                      rw [e544, e538] at p548
                      have p550 := p535
                      unfold ST at p550
                      rw [e523, e538, e525, e544, e524, e542] at p550
                      rw [e542, e538, e523] at p536
                      have p551 := (MInv_fx O521 F533 e522 rfl (MInv_fx O469 ((Fx.rf (wr := [23220200]) (h := h468)).pIa t473 ar_116101 hh519 rfl) e470 rfl (MInv_fx O437 ((Fx.rf (wr := [23420200]) (h := h434)).pIa t459 ar_117101 hh467 rfl) e444 rfl (MInv_fx O427 F438 e428 rfl (MInv_fx O406 ((Fx.rf (wr := [2407]) (h := h403)).pI e422 hh425 rfl) e422 rfl (MInv_fx O377 F407 e396 rfl (MInv_fx O348 F378 e367 rfl (MInv_fx O265 F349 e338 rfl (MInv_fx O236 F266 e255 rfl (MInv_fx O147 F237 e226 rfl (MInv_fx O60 F148 e137 rfl (MInv_fx O21 F61 e50 rfl (MInv_fx O F22 ta0 rfl P_MInv)))))))))))))
                      have p552 := (DLf_mono O521 F533 e522 rfl p535.2.2 (DLf_fx O469 ((Fx.rf (wr := [23220200]) (h := h468)).pIa t473 ar_116101 hh519 rfl) e470 rfl (DLf_fx O437 ((Fx.rf (wr := [23420200]) (h := h434)).pIa t459 ar_117101 hh467 rfl) e444 rfl (DLf_mono O427 F438 e428 rfl p441.2.2 (DLf_fx O406 ((Fx.rf (wr := [2407]) (h := h403)).pI e422 hh425 rfl) e422 rfl (DLf_fx O377 F407 e396 rfl (DLf_fx O348 F378 e367 rfl (DLf_fx O265 F349 e338 rfl (DLf_fx O236 F266 e255 rfl (DLf_fx O147 F237 e226 rfl (DLf_fx O60 F148 e137 rfl (DLf_fx O21 F61 e50 rfl (DLf_fx O F22 ta0 rfl P_DLf)))))))))))))
                      exact g_vret C hr ⟨O532, ((((((((((((((Fx.rf (wr := wr_k_X12_readNext)).call F22 rfl).call F61 rfl).call F148 rfl).call F237 rfl).call F266 rfl).call F349 rfl).call F378 rfl).call F407 rfl).pI e422 hh425 rfl).call F438 rfl).pIa t459 ar_117101 hh467 rfl).pIa t473 ar_116101 hh519 rfl).call F533 rfl), ⟨p545, by rw [e538, p549]; omega, by rw [e542, e538, p549]; omega, by rw [e544, e538]; omega⟩, (by unfold ST; rw [e2, e538, e8, e544, e5, e542]; omega), p551, p552, (by rw [e542, e2, e538]; omega)⟩ (by decide) (by decide) dX12_readNext_190
                    · have f553 : (0 : Int) ≤ r402 ∧ r402 ≤ (0 : Int) := ii f408 (r_eq (il 0) q517) (by decide) (by decide)
                      refine g_iconst C dX12_readNext_154 ?_
                      refine g_goto C 159 (by decide) dX12_readNext_155 ?_
                      refine g_zast C t473 rfl l474 (ix f456 (by decide) (by decide)) (iw (il 1) (by decide) (by decide)) dX12_readNext_159 (fun h555 hh554 => ?_)
                      have O556 := O469.pIa t473 ar_116101 hh554 rI_116101_0 (iw (il 1) (by decide) (by decide)) nofun
                      refine g_goto C 184 (by decide) dX12_readNext_160 ?_
                      refine g_aload_n C rfl 2 rfl dX12_readNext_184 ?_
                      refine g_bipush C (by decide) dX12_readNext_185 ?_
                      have e557 : Tg h555 a0 = 12 := ((pIT hh554).trans e470)
                      have e558 : Iv h555 a0 7 = v442 := ((pI_n hh554 (ne_tag e470 t473 (by decide))).trans ((pI_n hh467 (ne_tag e444 t459 (by decide))).trans e443))
                      have e559 : Iv h555 a0 8 = v446 := ((pI_n hh554 (ne_tag e470 t473 (by decide))).trans ((pI_n hh467 (ne_tag e444 t459 (by decide))).trans e447))
                      have e560 : Iv h555 a0 28 = v7 := ((pI_n hh554 (ne_tag e470 t473 (by decide))).trans ((pI_n hh467 (ne_tag e444 t459 (by decide))).trans e449))
                      have p561 := (TK_fx O469 ((Fx.rf (wr := [23220200]) (h := h468)).pIa t473 ar_116101 hh554 rfl) e470 rfl (TK_fx O437 ((Fx.rf (wr := [23420200]) (h := h434)).pIa t459 ar_117101 hh467 rfl) e444 rfl p450))
                      have p562 := ((NT_fx O469 ((Fx.rf (wr := [23220200]) (h := h468)).pIa t473 ar_116101 hh554 rfl) e470 rfl).trans ((NT_fx O437 ((Fx.rf (wr := [23420200]) (h := h434)).pIa t459 ar_117101 hh467 rfl) e444 rfl).trans p454))
                      refine g_callV (st := []) (gc_V C lk_LandSurveyModel_380 (k_X12_takeSign l D cy w z0 O556 e557 (iw (il 59) (by decide) (by decide)) ⟨p561, by rw [e558, p562]; omega, by rw [e559, e558, p562]; omega, by rw [e560, e558]; omega⟩) e557 rfl rfl rfl ⟨by decide, by decide⟩ (Nat.le_of_ble_eq_true rfl) dX12_readNext_187 ⟨(by decide), (by decide)⟩) (fun h564 K565 => ?_)
                      obtain ⟨O567, F568, p569, p570, p571⟩ := K565
                      obtain ⟨v572, e573⟩ : ∃ z, Iv h564 a0 7 = z := ⟨_, rfl⟩
                      have e574 : Tg h564 a0 = 12 := (fxT F568 e557)
                      have f575 := ok_I O567 e574 rI_12_7 e573
                      obtain ⟨v576, e577⟩ : ∃ z, Iv h564 a0 8 = z := ⟨_, rfl⟩
                      have f578 := ok_I O567 e574 rI_12_8 e577
                      have e579 : Iv h564 a0 28 = v7 := ((fxI F568 e557 rfl).trans e560)
                      obtain ⟨p580, p581, p582, p583⟩ := p569
                      have p584 := ((NT_fx O556 F568 e557 rfl).trans p562)
                      rw [e573, p584] at p581
                      rw [e577, e573, p584] at p582
                      rw [e579, e573] at p583
                      have p585 := p570
                      unfold ST at p585
                      rw [e558, e573, e560, e579, e559, e577] at p585
                      rw [e577, e573, e558] at p571
                      have p586 := (MInv_fx O556 F568 e557 rfl (MInv_fx O469 ((Fx.rf (wr := [23220200]) (h := h468)).pIa t473 ar_116101 hh554 rfl) e470 rfl (MInv_fx O437 ((Fx.rf (wr := [23420200]) (h := h434)).pIa t459 ar_117101 hh467 rfl) e444 rfl (MInv_fx O427 F438 e428 rfl (MInv_fx O406 ((Fx.rf (wr := [2407]) (h := h403)).pI e422 hh425 rfl) e422 rfl (MInv_fx O377 F407 e396 rfl (MInv_fx O348 F378 e367 rfl (MInv_fx O265 F349 e338 rfl (MInv_fx O236 F266 e255 rfl (MInv_fx O147 F237 e226 rfl (MInv_fx O60 F148 e137 rfl (MInv_fx O21 F61 e50 rfl (MInv_fx O F22 ta0 rfl P_MInv)))))))))))))
                      have p587 := (DLf_mono O556 F568 e557 rfl p570.2.2 (DLf_fx O469 ((Fx.rf (wr := [23220200]) (h := h468)).pIa t473 ar_116101 hh554 rfl) e470 rfl (DLf_fx O437 ((Fx.rf (wr := [23420200]) (h := h434)).pIa t459 ar_117101 hh467 rfl) e444 rfl (DLf_mono O427 F438 e428 rfl p441.2.2 (DLf_fx O406 ((Fx.rf (wr := [2407]) (h := h403)).pI e422 hh425 rfl) e422 rfl (DLf_fx O377 F407 e396 rfl (DLf_fx O348 F378 e367 rfl (DLf_fx O265 F349 e338 rfl (DLf_fx O236 F266 e255 rfl (DLf_fx O147 F237 e226 rfl (DLf_fx O60 F148 e137 rfl (DLf_fx O21 F61 e50 rfl (DLf_fx O F22 ta0 rfl P_DLf)))))))))))))
                      exact g_vret C hr ⟨O567, ((((((((((((((Fx.rf (wr := wr_k_X12_readNext)).call F22 rfl).call F61 rfl).call F148 rfl).call F237 rfl).call F266 rfl).call F349 rfl).call F378 rfl).call F407 rfl).pI e422 hh425 rfl).call F438 rfl).pIa t459 ar_117101 hh467 rfl).pIa t473 ar_116101 hh554 rfl).call F568 rfl), ⟨p580, by rw [e573, p584]; omega, by rw [e577, e573, p584]; omega, by rw [e579, e573]; omega⟩, (by unfold ST; rw [e2, e573, e8, e579, e5, e577]; omega), p586, p587, (by rw [e577, e2, e573]; omega)⟩ (by decide) (by decide) dX12_readNext_190
                · have f588 : (0 : Int) ≤ v461 ∧ v461 ≤ (0 : Int) := ii f463 (r_eq (il 0) q465) (by decide) (by decide)
                  refine g_iload_n C rfl 1 rfl dX12_readNext_126 ?_
                  refine g_if_eq C (iw f408 (by decide) (by decide)) 134 (by decide) dX12_readNext_127 (fun q589 => ?_) (fun q590 => ?_)
                  · have f591 : (0 : Int) ≤ r402 ∧ r402 ≤ (0 : Int) := ii f408 (r_eq (il 0) q589) (by decide) (by decide)
                    refine g_iconst C dX12_readNext_134 ?_
                    refine g_zast C t459 rfl l460 (ix f456 (by decide) (by decide)) (iw (il 0) (by decide) (by decide)) dX12_readNext_135 (fun h593 hh592 => ?_)
                    have O594 := O437.pIa t459 ar_117101 hh592 rI_117101_0 (iw (il 0) (by decide) (by decide)) nofun
                    refine g_aload_n C rfl 2 rfl dX12_readNext_136 ?_
                    have e595 : Tg h593 a0 = 12 := ((pIT hh592).trans e444)
                    obtain ⟨v596, e597⟩ : ∃ z, Rv h593 a0 16 = z := ⟨_, rfl⟩
                    have t598 := ok_R O594 e595 rE_12_16 e597
                    have l599 := ok_L O594 e595 rE_12_16 e597
                    refine gf_R C fk_LandSurveyModel_112 rfl e595 e597 dX12_readNext_137 ?_
                    refine g_iload_n C rfl 0 rfl dX12_readNext_140 ?_
                    refine g_aload_n C rfl 2 rfl dX12_readNext_141 ?_
                    refine gf_R C fk_LandSurveyModel_112 rfl e595 e597 dX12_readNext_142 ?_
                    refine g_iload_n C rfl 0 rfl dX12_readNext_145 ?_
                    obtain ⟨v600, e601⟩ : ∃ z, Iv h593 v596 ((80 + r433).toNat) = z := ⟨_, rfl⟩
                    have f602 := ok_Ia O594 t598 ar_116101 rI_116101_0 e601
                    refine g_zald C t598 rfl l599 (ix f456 (by decide) (by decide)) e601 dX12_readNext_146 ?_
                    refine g_if_ne C (iw f602 (by decide) (by decide)) 154 (by decide) dX12_readNext_147 (fun q603 => ?_) (fun q604 => ?_)
                    · have f605 : (1 : Int) ≤ v600 ∧ v600 ≤ (1 : Int) := r_nl f602 q603
                      refine g_iconst C dX12_readNext_154 ?_
                      refine g_goto C 159 (by decide) dX12_readNext_155 ?_
                      refine g_zast C t598 rfl l599 (ix f456 (by decide) (by decide)) (iw (il 1) (by decide) (by decide)) dX12_readNext_159 (fun h607 hh606 => ?_)
                      have O608 := O594.pIa t598 ar_116101 hh606 rI_116101_0 (iw (il 1) (by decide) (by decide)) nofun
                      refine g_goto C 184 (by decide) dX12_readNext_160 ?_
                      refine g_aload_n C rfl 2 rfl dX12_readNext_184 ?_
                      refine g_bipush C (by decide) dX12_readNext_185 ?_
                      have e609 : Tg h607 a0 = 12 := ((pIT hh606).trans e595)
                      have e610 : Iv h607 a0 7 = v442 := ((pI_n hh606 (ne_tag e595 t598 (by decide))).trans ((pI_n hh592 (ne_tag e444 t459 (by decide))).trans e443))
                      have e611 : Iv h607 a0 8 = v446 := ((pI_n hh606 (ne_tag e595 t598 (by decide))).trans ((pI_n hh592 (ne_tag e444 t459 (by decide))).trans e447))
                      have e612 : Iv h607 a0 28 = v7 := ((pI_n hh606 (ne_tag e595 t598 (by decide))).trans ((pI_n hh592 (ne_tag e444 t459 (by decide))).trans e449))
                      have p613 := (TK_fx O594 ((Fx.rf (wr := [23220200]) (h := h593)).pIa t598 ar_116101 hh606 rfl) e595 rfl (TK_fx O437 ((Fx.rf (wr := [23420200]) (h := h434)).pIa t459 ar_117101 hh592 rfl) e444 rfl p450))
                      have p614 := ((NT_fx O594 ((Fx.rf (wr := [23220200]) (h := h593)).pIa t598 ar_116101 hh606 rfl) e595 rfl).trans ((NT_fx O437 ((Fx.rf (wr := [23420200]) (h := h434)).pIa t459 ar_117101 hh592 rfl) e444 rfl).trans p454))
                      refine g_callV (st := []) (gc_V C lk_LandSurveyModel_380 (k_X12_takeSign l D cy w z0 O608 e609 (iw (il 59) (by decide) (by decide)) ⟨p613, by rw [e610, p614]; omega, by rw [e611, e610, p614]; omega, by rw [e612, e610]; omega⟩) e609 rfl rfl rfl ⟨by decide, by decide⟩ (Nat.le_of_ble_eq_true rfl) dX12_readNext_187 ⟨(by decide), (by decide)⟩) (fun h616 K617 => ?_)
                      obtain ⟨O619, F620, p621, p622, p623⟩ := K617
                      obtain ⟨v624, e625⟩ : ∃ z, Iv h616 a0 7 = z := ⟨_, rfl⟩
                      have e626 : Tg h616 a0 = 12 := (fxT F620 e609)
                      have f627 := ok_I O619 e626 rI_12_7 e625
                      obtain ⟨v628, e629⟩ : ∃ z, Iv h616 a0 8 = z := ⟨_, rfl⟩
                      have f630 := ok_I O619 e626 rI_12_8 e629
                      have e631 : Iv h616 a0 28 = v7 := ((fxI F620 e609 rfl).trans e612)
                      obtain ⟨p632, p633, p634, p635⟩ := p621
                      have p636 := ((NT_fx O608 F620 e609 rfl).trans p614)
                      rw [e625, p636] at p633
                      rw [e629, e625, p636] at p634
                      rw [e631, e625] at p635
                      have p637 := p622
                      unfold ST at p637
                      rw [e610, e625, e612, e631, e611, e629] at p637
                      rw [e629, e625, e610] at p623
                      have p638 := (MInv_fx O608 F620 e609 rfl (MInv_fx O594 ((Fx.rf (wr := [23220200]) (h := h593)).pIa t598 ar_116101 hh606 rfl) e595 rfl (MInv_fx O437 ((Fx.rf (wr := [23420200]) (h := h434)).pIa t459 ar_117101 hh592 rfl) e444 rfl (MInv_fx O427 F438 e428 rfl (MInv_fx O406 ((Fx.rf (wr := [2407]) (h := h403)).pI e422 hh425 rfl) e422 rfl (MInv_fx O377 F407 e396 rfl (MInv_fx O348 F378 e367 rfl (MInv_fx O265 F349 e338 rfl (MInv_fx O236 F266 e255 rfl (MInv_fx O147 F237 e226 rfl (MInv_fx O60 F148 e137 rfl (MInv_fx O21 F61 e50 rfl (MInv_fx O F22 ta0 rfl P_MInv)))))))))))))
                      have p639 := (DLf_mono O608 F620 e609 rfl p622.2.2 (DLf_fx O594 ((Fx.rf (wr := [23220200]) (h := h593)).pIa t598 ar_116101 hh606 rfl) e595 rfl (DLf_fx O437 ((Fx.rf (wr := [23420200]) (h := h434)).pIa t459 ar_117101 hh592 rfl) e444 rfl (DLf_mono O427 F438 e428 rfl p441.2.2 (DLf_fx O406 ((Fx.rf (wr := [2407]) (h := h403)).pI e422 hh425 rfl) e422 rfl (DLf_fx O377 F407 e396 rfl (DLf_fx O348 F378 e367 rfl (DLf_fx O265 F349 e338 rfl (DLf_fx O236 F266 e255 rfl (DLf_fx O147 F237 e226 rfl (DLf_fx O60 F148 e137 rfl (DLf_fx O21 F61 e50 rfl (DLf_fx O F22 ta0 rfl P_DLf)))))))))))))
                      exact g_vret C hr ⟨O619, ((((((((((((((Fx.rf (wr := wr_k_X12_readNext)).call F22 rfl).call F61 rfl).call F148 rfl).call F237 rfl).call F266 rfl).call F349 rfl).call F378 rfl).call F407 rfl).pI e422 hh425 rfl).call F438 rfl).pIa t459 ar_117101 hh592 rfl).pIa t598 ar_116101 hh606 rfl).call F620 rfl), ⟨p632, by rw [e625, p636]; omega, by rw [e629, e625, p636]; omega, by rw [e631, e625]; omega⟩, (by unfold ST; rw [e2, e625, e8, e631, e5, e629]; omega), p638, p639, (by rw [e629, e2, e625]; omega)⟩ (by decide) (by decide) dX12_readNext_190
                    · have f640 : (0 : Int) ≤ v600 ∧ v600 ≤ (0 : Int) := ii f602 (r_eq (il 0) q604) (by decide) (by decide)
                      refine g_iload_n C rfl 1 rfl dX12_readNext_150 ?_
                      refine g_if_ne C (iw f591 (by decide) (by decide)) 158 (by decide) dX12_readNext_151 (fun q641 => ?_) (fun q642 => ?_)
                      · exact (no_ne f591 (il 0) q641 (by decide)).elim
                      · refine g_iconst C dX12_readNext_154 ?_
                        refine g_goto C 159 (by decide) dX12_readNext_155 ?_
                        refine g_zast C t598 rfl l599 (ix f456 (by decide) (by decide)) (iw (il 1) (by decide) (by decide)) dX12_readNext_159 (fun h644 hh643 => ?_)
                        have O645 := O594.pIa t598 ar_116101 hh643 rI_116101_0 (iw (il 1) (by decide) (by decide)) nofun
                        refine g_goto C 184 (by decide) dX12_readNext_160 ?_
                        refine g_aload_n C rfl 2 rfl dX12_readNext_184 ?_
                        refine g_bipush C (by decide) dX12_readNext_185 ?_
                        have e646 : Tg h644 a0 = 12 := ((pIT hh643).trans e595)
                        have e647 : Iv h644 a0 7 = v442 := ((pI_n hh643 (ne_tag e595 t598 (by decide))).trans ((pI_n hh592 (ne_tag e444 t459 (by decide))).trans e443))
                        have e648 : Iv h644 a0 8 = v446 := ((pI_n hh643 (ne_tag e595 t598 (by decide))).trans ((pI_n hh592 (ne_tag e444 t459 (by decide))).trans e447))
                        have e649 : Iv h644 a0 28 = v7 := ((pI_n hh643 (ne_tag e595 t598 (by decide))).trans ((pI_n hh592 (ne_tag e444 t459 (by decide))).trans e449))
                        have p650 := (TK_fx O594 ((Fx.rf (wr := [23220200]) (h := h593)).pIa t598 ar_116101 hh643 rfl) e595 rfl (TK_fx O437 ((Fx.rf (wr := [23420200]) (h := h434)).pIa t459 ar_117101 hh592 rfl) e444 rfl p450))
                        have p651 := ((NT_fx O594 ((Fx.rf (wr := [23220200]) (h := h593)).pIa t598 ar_116101 hh643 rfl) e595 rfl).trans ((NT_fx O437 ((Fx.rf (wr := [23420200]) (h := h434)).pIa t459 ar_117101 hh592 rfl) e444 rfl).trans p454))
                        refine g_callV (st := []) (gc_V C lk_LandSurveyModel_380 (k_X12_takeSign l D cy w z0 O645 e646 (iw (il 59) (by decide) (by decide)) ⟨p650, by rw [e647, p651]; omega, by rw [e648, e647, p651]; omega, by rw [e649, e647]; omega⟩) e646 rfl rfl rfl ⟨by decide, by decide⟩ (Nat.le_of_ble_eq_true rfl) dX12_readNext_187 ⟨(by decide), (by decide)⟩) (fun h653 K654 => ?_)
                        obtain ⟨O656, F657, p658, p659, p660⟩ := K654
                        obtain ⟨v661, e662⟩ : ∃ z, Iv h653 a0 7 = z := ⟨_, rfl⟩
                        have e663 : Tg h653 a0 = 12 := (fxT F657 e646)
                        have f664 := ok_I O656 e663 rI_12_7 e662
                        obtain ⟨v665, e666⟩ : ∃ z, Iv h653 a0 8 = z := ⟨_, rfl⟩
                        have f667 := ok_I O656 e663 rI_12_8 e666
                        have e668 : Iv h653 a0 28 = v7 := ((fxI F657 e646 rfl).trans e649)
                        obtain ⟨p669, p670, p671, p672⟩ := p658
                        have p673 := ((NT_fx O645 F657 e646 rfl).trans p651)
                        rw [e662, p673] at p670
                        rw [e666, e662, p673] at p671
                        rw [e668, e662] at p672
                        have p674 := p659
                        unfold ST at p674
                        rw [e647, e662, e649, e668, e648, e666] at p674
                        rw [e666, e662, e647] at p660
                        have p675 := (MInv_fx O645 F657 e646 rfl (MInv_fx O594 ((Fx.rf (wr := [23220200]) (h := h593)).pIa t598 ar_116101 hh643 rfl) e595 rfl (MInv_fx O437 ((Fx.rf (wr := [23420200]) (h := h434)).pIa t459 ar_117101 hh592 rfl) e444 rfl (MInv_fx O427 F438 e428 rfl (MInv_fx O406 ((Fx.rf (wr := [2407]) (h := h403)).pI e422 hh425 rfl) e422 rfl (MInv_fx O377 F407 e396 rfl (MInv_fx O348 F378 e367 rfl (MInv_fx O265 F349 e338 rfl (MInv_fx O236 F266 e255 rfl (MInv_fx O147 F237 e226 rfl (MInv_fx O60 F148 e137 rfl (MInv_fx O21 F61 e50 rfl (MInv_fx O F22 ta0 rfl P_MInv)))))))))))))
                        have p676 := (DLf_mono O645 F657 e646 rfl p659.2.2 (DLf_fx O594 ((Fx.rf (wr := [23220200]) (h := h593)).pIa t598 ar_116101 hh643 rfl) e595 rfl (DLf_fx O437 ((Fx.rf (wr := [23420200]) (h := h434)).pIa t459 ar_117101 hh592 rfl) e444 rfl (DLf_mono O427 F438 e428 rfl p441.2.2 (DLf_fx O406 ((Fx.rf (wr := [2407]) (h := h403)).pI e422 hh425 rfl) e422 rfl (DLf_fx O377 F407 e396 rfl (DLf_fx O348 F378 e367 rfl (DLf_fx O265 F349 e338 rfl (DLf_fx O236 F266 e255 rfl (DLf_fx O147 F237 e226 rfl (DLf_fx O60 F148 e137 rfl (DLf_fx O21 F61 e50 rfl (DLf_fx O F22 ta0 rfl P_DLf)))))))))))))
                        exact g_vret C hr ⟨O656, ((((((((((((((Fx.rf (wr := wr_k_X12_readNext)).call F22 rfl).call F61 rfl).call F148 rfl).call F237 rfl).call F266 rfl).call F349 rfl).call F378 rfl).call F407 rfl).pI e422 hh425 rfl).call F438 rfl).pIa t459 ar_117101 hh592 rfl).pIa t598 ar_116101 hh643 rfl).call F657 rfl), ⟨p669, by rw [e662, p673]; omega, by rw [e666, e662, p673]; omega, by rw [e668, e662]; omega⟩, (by unfold ST; rw [e2, e662, e8, e668, e5, e666]; omega), p675, p676, (by rw [e666, e2, e662]; omega)⟩ (by decide) (by decide) dX12_readNext_190
                  · have f677 : (1 : Int) ≤ r402 ∧ r402 ≤ (1 : Int) := r_nl f408 q590
                    refine g_iconst C dX12_readNext_130 ?_
                    refine g_goto C 135 (by decide) dX12_readNext_131 ?_
                    refine g_zast C t459 rfl l460 (ix f456 (by decide) (by decide)) (iw (il 1) (by decide) (by decide)) dX12_readNext_135 (fun h679 hh678 => ?_)
                    have O680 := O437.pIa t459 ar_117101 hh678 rI_117101_0 (iw (il 1) (by decide) (by decide)) nofun
                    refine g_aload_n C rfl 2 rfl dX12_readNext_136 ?_
                    have e681 : Tg h679 a0 = 12 := ((pIT hh678).trans e444)
                    obtain ⟨v682, e683⟩ : ∃ z, Rv h679 a0 16 = z := ⟨_, rfl⟩
                    have t684 := ok_R O680 e681 rE_12_16 e683
                    have l685 := ok_L O680 e681 rE_12_16 e683
                    refine gf_R C fk_LandSurveyModel_112 rfl e681 e683 dX12_readNext_137 ?_
                    refine g_iload_n C rfl 0 rfl dX12_readNext_140 ?_
                    refine g_aload_n C rfl 2 rfl dX12_readNext_141 ?_
                    refine gf_R C fk_LandSurveyModel_112 rfl e681 e683 dX12_readNext_142 ?_
                    refine g_iload_n C rfl 0 rfl dX12_readNext_145 ?_
                    obtain ⟨v686, e687⟩ : ∃ z, Iv h679 v682 ((80 + r433).toNat) = z := ⟨_, rfl⟩
                    have f688 := ok_Ia O680 t684 ar_116101 rI_116101_0 e687
                    refine g_zald C t684 rfl l685 (ix f456 (by decide) (by decide)) e687 dX12_readNext_146 ?_
                    refine g_if_ne C (iw f688 (by decide) (by decide)) 154 (by decide) dX12_readNext_147 (fun q689 => ?_) (fun q690 => ?_)
                    · have f691 : (1 : Int) ≤ v686 ∧ v686 ≤ (1 : Int) := r_nl f688 q689
                      refine g_iconst C dX12_readNext_154 ?_
                      refine g_goto C 159 (by decide) dX12_readNext_155 ?_
                      refine g_zast C t684 rfl l685 (ix f456 (by decide) (by decide)) (iw (il 1) (by decide) (by decide)) dX12_readNext_159 (fun h693 hh692 => ?_)
                      have O694 := O680.pIa t684 ar_116101 hh692 rI_116101_0 (iw (il 1) (by decide) (by decide)) nofun
                      refine g_goto C 184 (by decide) dX12_readNext_160 ?_
                      refine g_aload_n C rfl 2 rfl dX12_readNext_184 ?_
                      refine g_bipush C (by decide) dX12_readNext_185 ?_
                      have e695 : Tg h693 a0 = 12 := ((pIT hh692).trans e681)
                      have e696 : Iv h693 a0 7 = v442 := ((pI_n hh692 (ne_tag e681 t684 (by decide))).trans ((pI_n hh678 (ne_tag e444 t459 (by decide))).trans e443))
                      have e697 : Iv h693 a0 8 = v446 := ((pI_n hh692 (ne_tag e681 t684 (by decide))).trans ((pI_n hh678 (ne_tag e444 t459 (by decide))).trans e447))
                      have e698 : Iv h693 a0 28 = v7 := ((pI_n hh692 (ne_tag e681 t684 (by decide))).trans ((pI_n hh678 (ne_tag e444 t459 (by decide))).trans e449))
                      have p699 := (TK_fx O680 ((Fx.rf (wr := [23220200]) (h := h679)).pIa t684 ar_116101 hh692 rfl) e681 rfl (TK_fx O437 ((Fx.rf (wr := [23420200]) (h := h434)).pIa t459 ar_117101 hh678 rfl) e444 rfl p450))
                      have p700 := ((NT_fx O680 ((Fx.rf (wr := [23220200]) (h := h679)).pIa t684 ar_116101 hh692 rfl) e681 rfl).trans ((NT_fx O437 ((Fx.rf (wr := [23420200]) (h := h434)).pIa t459 ar_117101 hh678 rfl) e444 rfl).trans p454))
                      refine g_callV (st := []) (gc_V C lk_LandSurveyModel_380 (k_X12_takeSign l D cy w z0 O694 e695 (iw (il 59) (by decide) (by decide)) ⟨p699, by rw [e696, p700]; omega, by rw [e697, e696, p700]; omega, by rw [e698, e696]; omega⟩) e695 rfl rfl rfl ⟨by decide, by decide⟩ (Nat.le_of_ble_eq_true rfl) dX12_readNext_187 ⟨(by decide), (by decide)⟩) (fun h702 K703 => ?_)
                      obtain ⟨O705, F706, p707, p708, p709⟩ := K703
                      obtain ⟨v710, e711⟩ : ∃ z, Iv h702 a0 7 = z := ⟨_, rfl⟩
                      have e712 : Tg h702 a0 = 12 := (fxT F706 e695)
                      have f713 := ok_I O705 e712 rI_12_7 e711
                      obtain ⟨v714, e715⟩ : ∃ z, Iv h702 a0 8 = z := ⟨_, rfl⟩
                      have f716 := ok_I O705 e712 rI_12_8 e715
                      have e717 : Iv h702 a0 28 = v7 := ((fxI F706 e695 rfl).trans e698)
                      obtain ⟨p718, p719, p720, p721⟩ := p707
                      have p722 := ((NT_fx O694 F706 e695 rfl).trans p700)
                      rw [e711, p722] at p719
                      rw [e715, e711, p722] at p720
                      rw [e717, e711] at p721
                      have p723 := p708
                      unfold ST at p723
                      rw [e696, e711, e698, e717, e697, e715] at p723
                      rw [e715, e711, e696] at p709
                      have p724 := (MInv_fx O694 F706 e695 rfl (MInv_fx O680 ((Fx.rf (wr := [23220200]) (h := h679)).pIa t684 ar_116101 hh692 rfl) e681 rfl (MInv_fx O437 ((Fx.rf (wr := [23420200]) (h := h434)).pIa t459 ar_117101 hh678 rfl) e444 rfl (MInv_fx O427 F438 e428 rfl (MInv_fx O406 ((Fx.rf (wr := [2407]) (h := h403)).pI e422 hh425 rfl) e422 rfl (MInv_fx O377 F407 e396 rfl (MInv_fx O348 F378 e367 rfl (MInv_fx O265 F349 e338 rfl (MInv_fx O236 F266 e255 rfl (MInv_fx O147 F237 e226 rfl (MInv_fx O60 F148 e137 rfl (MInv_fx O21 F61 e50 rfl (MInv_fx O F22 ta0 rfl P_MInv)))))))))))))
                      have p725 := (DLf_mono O694 F706 e695 rfl p708.2.2 (DLf_fx O680 ((Fx.rf (wr := [23220200]) (h := h679)).pIa t684 ar_116101 hh692 rfl) e681 rfl (DLf_fx O437 ((Fx.rf (wr := [23420200]) (h := h434)).pIa t459 ar_117101 hh678 rfl) e444 rfl (DLf_mono O427 F438 e428 rfl p441.2.2 (DLf_fx O406 ((Fx.rf (wr := [2407]) (h := h403)).pI e422 hh425 rfl) e422 rfl (DLf_fx O377 F407 e396 rfl (DLf_fx O348 F378 e367 rfl (DLf_fx O265 F349 e338 rfl (DLf_fx O236 F266 e255 rfl (DLf_fx O147 F237 e226 rfl (DLf_fx O60 F148 e137 rfl (DLf_fx O21 F61 e50 rfl (DLf_fx O F22 ta0 rfl P_DLf)))))))))))))
                      exact g_vret C hr ⟨O705, ((((((((((((((Fx.rf (wr := wr_k_X12_readNext)).call F22 rfl).call F61 rfl).call F148 rfl).call F237 rfl).call F266 rfl).call F349 rfl).call F378 rfl).call F407 rfl).pI e422 hh425 rfl).call F438 rfl).pIa t459 ar_117101 hh678 rfl).pIa t684 ar_116101 hh692 rfl).call F706 rfl), ⟨p718, by rw [e711, p722]; omega, by rw [e715, e711, p722]; omega, by rw [e717, e711]; omega⟩, (by unfold ST; rw [e2, e711, e8, e717, e5, e715]; omega), p724, p725, (by rw [e715, e2, e711]; omega)⟩ (by decide) (by decide) dX12_readNext_190
                    · have f726 : (0 : Int) ≤ v686 ∧ v686 ≤ (0 : Int) := ii f688 (r_eq (il 0) q690) (by decide) (by decide)
                      refine g_iload_n C rfl 1 rfl dX12_readNext_150 ?_
                      refine g_if_ne C (iw f677 (by decide) (by decide)) 158 (by decide) dX12_readNext_151 (fun q727 => ?_) (fun q728 => ?_)
                      · refine g_iconst C dX12_readNext_158 ?_
                        refine g_zast C t684 rfl l685 (ix f456 (by decide) (by decide)) (iw (il 0) (by decide) (by decide)) dX12_readNext_159 (fun h730 hh729 => ?_)
                        have O731 := O680.pIa t684 ar_116101 hh729 rI_116101_0 (iw (il 0) (by decide) (by decide)) nofun
                        refine g_goto C 184 (by decide) dX12_readNext_160 ?_
                        refine g_aload_n C rfl 2 rfl dX12_readNext_184 ?_
                        refine g_bipush C (by decide) dX12_readNext_185 ?_
                        have e732 : Tg h730 a0 = 12 := ((pIT hh729).trans e681)
                        have e733 : Iv h730 a0 7 = v442 := ((pI_n hh729 (ne_tag e681 t684 (by decide))).trans ((pI_n hh678 (ne_tag e444 t459 (by decide))).trans e443))
                        have e734 : Iv h730 a0 8 = v446 := ((pI_n hh729 (ne_tag e681 t684 (by decide))).trans ((pI_n hh678 (ne_tag e444 t459 (by decide))).trans e447))
                        have e735 : Iv h730 a0 28 = v7 := ((pI_n hh729 (ne_tag e681 t684 (by decide))).trans ((pI_n hh678 (ne_tag e444 t459 (by decide))).trans e449))
                        have p736 := (TK_fx O680 ((Fx.rf (wr := [23220200]) (h := h679)).pIa t684 ar_116101 hh729 rfl) e681 rfl (TK_fx O437 ((Fx.rf (wr := [23420200]) (h := h434)).pIa t459 ar_117101 hh678 rfl) e444 rfl p450))
                        have p737 := ((NT_fx O680 ((Fx.rf (wr := [23220200]) (h := h679)).pIa t684 ar_116101 hh729 rfl) e681 rfl).trans ((NT_fx O437 ((Fx.rf (wr := [23420200]) (h := h434)).pIa t459 ar_117101 hh678 rfl) e444 rfl).trans p454))
                        refine g_callV (st := []) (gc_V C lk_LandSurveyModel_380 (k_X12_takeSign l D cy w z0 O731 e732 (iw (il 59) (by decide) (by decide)) ⟨p736, by rw [e733, p737]; omega, by rw [e734, e733, p737]; omega, by rw [e735, e733]; omega⟩) e732 rfl rfl rfl ⟨by decide, by decide⟩ (Nat.le_of_ble_eq_true rfl) dX12_readNext_187 ⟨(by decide), (by decide)⟩) (fun h739 K740 => ?_)
                        obtain ⟨O742, F743, p744, p745, p746⟩ := K740
                        obtain ⟨v747, e748⟩ : ∃ z, Iv h739 a0 7 = z := ⟨_, rfl⟩
                        have e749 : Tg h739 a0 = 12 := (fxT F743 e732)
                        have f750 := ok_I O742 e749 rI_12_7 e748
                        obtain ⟨v751, e752⟩ : ∃ z, Iv h739 a0 8 = z := ⟨_, rfl⟩
                        have f753 := ok_I O742 e749 rI_12_8 e752
                        have e754 : Iv h739 a0 28 = v7 := ((fxI F743 e732 rfl).trans e735)
                        obtain ⟨p755, p756, p757, p758⟩ := p744
                        have p759 := ((NT_fx O731 F743 e732 rfl).trans p737)
                        rw [e748, p759] at p756
                        rw [e752, e748, p759] at p757
                        rw [e754, e748] at p758
                        have p760 := p745
                        unfold ST at p760
                        rw [e733, e748, e735, e754, e734, e752] at p760
                        rw [e752, e748, e733] at p746
                        have p761 := (MInv_fx O731 F743 e732 rfl (MInv_fx O680 ((Fx.rf (wr := [23220200]) (h := h679)).pIa t684 ar_116101 hh729 rfl) e681 rfl (MInv_fx O437 ((Fx.rf (wr := [23420200]) (h := h434)).pIa t459 ar_117101 hh678 rfl) e444 rfl (MInv_fx O427 F438 e428 rfl (MInv_fx O406 ((Fx.rf (wr := [2407]) (h := h403)).pI e422 hh425 rfl) e422 rfl (MInv_fx O377 F407 e396 rfl (MInv_fx O348 F378 e367 rfl (MInv_fx O265 F349 e338 rfl (MInv_fx O236 F266 e255 rfl (MInv_fx O147 F237 e226 rfl (MInv_fx O60 F148 e137 rfl (MInv_fx O21 F61 e50 rfl (MInv_fx O F22 ta0 rfl P_MInv)))))))))))))
                        have p762 := (DLf_mono O731 F743 e732 rfl p745.2.2 (DLf_fx O680 ((Fx.rf (wr := [23220200]) (h := h679)).pIa t684 ar_116101 hh729 rfl) e681 rfl (DLf_fx O437 ((Fx.rf (wr := [23420200]) (h := h434)).pIa t459 ar_117101 hh678 rfl) e444 rfl (DLf_mono O427 F438 e428 rfl p441.2.2 (DLf_fx O406 ((Fx.rf (wr := [2407]) (h := h403)).pI e422 hh425 rfl) e422 rfl (DLf_fx O377 F407 e396 rfl (DLf_fx O348 F378 e367 rfl (DLf_fx O265 F349 e338 rfl (DLf_fx O236 F266 e255 rfl (DLf_fx O147 F237 e226 rfl (DLf_fx O60 F148 e137 rfl (DLf_fx O21 F61 e50 rfl (DLf_fx O F22 ta0 rfl P_DLf)))))))))))))
                        exact g_vret C hr ⟨O742, ((((((((((((((Fx.rf (wr := wr_k_X12_readNext)).call F22 rfl).call F61 rfl).call F148 rfl).call F237 rfl).call F266 rfl).call F349 rfl).call F378 rfl).call F407 rfl).pI e422 hh425 rfl).call F438 rfl).pIa t459 ar_117101 hh678 rfl).pIa t684 ar_116101 hh729 rfl).call F743 rfl), ⟨p755, by rw [e748, p759]; omega, by rw [e752, e748, p759]; omega, by rw [e754, e748]; omega⟩, (by unfold ST; rw [e2, e748, e8, e754, e5, e752]; omega), p761, p762, (by rw [e752, e2, e748]; omega)⟩ (by decide) (by decide) dX12_readNext_190
                      · exact (no_eq f677 (il 0) q728 (by decide)).elim
              · have f763 : (0 : Int) ≤ r373 ∧ r373 ≤ (0 : Int) := ii f379 (r_eq (il 0) q394) (by decide) (by decide)
                refine g_aload_n C rfl 0 rfl dX12_readNext_78 ?_
                refine g_bipush C (by decide) dX12_readNext_79 ?_
                have e764 : Tg h374 a0 = 12 := (fxT F378 e367)
                have e765 : Iv h374 a0 7 = v1 := ((fxI F378 e367 rfl).trans e368)
                have e766 : Iv h374 a0 8 = v4 := ((fxI F378 e367 rfl).trans e369)
                have e767 : Iv h374 a0 28 = v7 := ((fxI F378 e367 rfl).trans e370)
                have p768 := (TK_fx O348 F378 e367 rfl p371)
                have p769 := ((NT_fx O348 F378 e367 rfl).trans p372)
                refine g_callI (st := []) (gc_V C lk_LandSurveyModel_330 (k_X12_isWord l D cy w z0 O377 e764 (iw (il 7) (by decide) (by decide)) ⟨p768, by rw [e765, p769]; omega, by rw [e766, e765, p769]; omega, by rw [e767, e765]; omega⟩) e764 rfl rfl rfl ⟨by decide, by decide⟩ (Nat.le_of_ble_eq_true rfl) dX12_readNext_81 ⟨(by decide), (by decide)⟩) (fun r770 h771 f773 K772 => ?_)
                obtain ⟨O774, F775, f776, p777, p778⟩ := K772
                rw [e766, e765, p769] at p777
                have e779 : Rv h374 a0 4 = v26 := ((fxR F378 e367 rfl).trans e382)
                have e780 : Tg h345 v26 = 104100 := (fxT F349 e383)
                have e781 : Iv h374 v26 v1.toNat = v30 := ((fxIa F378 e780 ar_104100 rfl).trans e384)
                have e782 : Rv h374 a0 6 = v33 := ((fxR F378 e367 rfl).trans e385)
                have e783 : Tg h345 v33 = 106102 := (fxT F349 e386)
                have e784 : Jv h374 v33 v1.toNat = v37 := ((fxJa F378 e783 ar_106102 rfl).trans e387)
                have e785 : Rv h374 a0 9 = v40 := ((fxR F378 e367 rfl).trans e388)
                obtain ⟨v786, e787⟩ : ∃ z, Jv h374 v40 ((7 : Int).toNat) = z := ⟨_, rfl⟩
                have e788 : Tg h374 v40 = 109102 := (fxT F378 e391)
                have f789 := inL_J O377 e787
                rw [e766, e779, e765, e781, e782, e784, e785, e787] at p778
                refine g_if_eq C (iw f776 (by decide) (by decide)) 163 (by decide) dX12_readNext_84 (fun q790 => ?_) (fun q791 => ?_)
                · have f792 : (0 : Int) ≤ r770 ∧ r770 ≤ (0 : Int) := ii f776 (r_eq (il 0) q790) (by decide) (by decide)
                  refine g_aload_n C rfl 0 rfl dX12_readNext_163 ?_
                  refine g_bipush C (by decide) dX12_readNext_164 ?_
                  have e793 : Tg h771 a0 = 12 := (fxT F775 e764)
                  have e794 : Iv h771 a0 7 = v1 := ((fxI F775 e764 rfl).trans e765)
                  have e795 : Iv h771 a0 8 = v4 := ((fxI F775 e764 rfl).trans e766)
                  have e796 : Iv h771 a0 28 = v7 := ((fxI F775 e764 rfl).trans e767)
                  have p797 := (TK_fx O377 F775 e764 rfl p768)
                  have p798 := ((NT_fx O377 F775 e764 rfl).trans p769)
                  refine g_callI (st := []) (gc_V C lk_LandSurveyModel_330 (k_X12_isWord l D cy w z0 O774 e793 (iw (il 8) (by decide) (by decide)) ⟨p797, by rw [e794, p798]; omega, by rw [e795, e794, p798]; omega, by rw [e796, e794]; omega⟩) e793 rfl rfl rfl ⟨by decide, by decide⟩ (Nat.le_of_ble_eq_true rfl) dX12_readNext_166 ⟨(by decide), (by decide)⟩) (fun r799 h800 f802 K801 => ?_)
                  obtain ⟨O803, F804, f805, p806, p807⟩ := K801
                  rw [e795, e794, p798] at p806
                  have e808 : Rv h771 a0 4 = v26 := ((fxR F775 e764 rfl).trans e779)
                  have e809 : Tg h374 v26 = 104100 := (fxT F378 e780)
                  have e810 : Iv h771 v26 v1.toNat = v30 := ((fxIa F775 e809 ar_104100 rfl).trans e781)
                  have e811 : Rv h771 a0 6 = v33 := ((fxR F775 e764 rfl).trans e782)
                  have e812 : Tg h374 v33 = 106102 := (fxT F378 e783)
                  have e813 : Jv h771 v33 v1.toNat = v37 := ((fxJa F775 e812 ar_106102 rfl).trans e784)
                  have e814 : Rv h771 a0 9 = v40 := ((fxR F775 e764 rfl).trans e785)
                  obtain ⟨v815, e816⟩ : ∃ z, Jv h771 v40 ((8 : Int).toNat) = z := ⟨_, rfl⟩
                  have e817 : Tg h771 v40 = 109102 := (fxT F775 e788)
                  have f818 := inL_J O774 e816
                  rw [e795, e808, e794, e810, e811, e813, e814, e816] at p807
                  refine g_if_eq C (iw f805 (by decide) (by decide)) 179 (by decide) dX12_readNext_169 (fun q819 => ?_) (fun q820 => ?_)
                  · have f821 : (0 : Int) ≤ r799 ∧ r799 ≤ (0 : Int) := ii f805 (r_eq (il 0) q819) (by decide) (by decide)
                    refine g_aload_n C rfl 0 rfl dX12_readNext_179 ?_
                    refine g_iconst C dX12_readNext_180 ?_
                    have e822 : Tg h800 a0 = 12 := (fxT F804 e793)
                    refine g_callV (st := []) (gc_V C lk_LandSurveyModel_326 (k_X12_wrong l D cy w z0 O803 e822 (iw (il 1) (by decide) (by decide))) e822 rfl rfl rfl ⟨by decide, by decide⟩ (Nat.le_of_ble_eq_true rfl) dX12_readNext_181 ⟨(by decide), (by decide)⟩) (fun h824 K825 => ?_)
                    obtain ⟨O827, F828, p829⟩ := K825
                    obtain ⟨v830, e831⟩ : ∃ z, Iv h824 a0 8 = z := ⟨_, rfl⟩
                    have e832 : Tg h824 a0 = 12 := (fxT F828 e822)
                    have f833 := ok_I O827 e832 rI_12_8 e831
                    rw [e831] at p829
                    have f834 : (1 : Int) ≤ v830 ∧ v830 ≤ (24005 : Int) := by omega
                    refine g_aload_n C rfl 0 rfl dX12_readNext_184 ?_
                    refine g_bipush C (by decide) dX12_readNext_185 ?_
                    have e835 : Iv h824 a0 7 = v1 := ((fxI F828 e822 rfl).trans ((fxI F804 e793 rfl).trans e794))
                    have e836 : Iv h824 a0 28 = v7 := ((fxI F828 e822 rfl).trans ((fxI F804 e793 rfl).trans e796))
                    have p837 := (TK_fx O803 F828 e822 rfl (TK_fx O774 F804 e793 rfl p797))
                    have p838 := ((NT_fx O803 F828 e822 rfl).trans ((NT_fx O774 F804 e793 rfl).trans p798))
                    refine g_callV (st := []) (gc_V C lk_LandSurveyModel_380 (k_X12_takeSign l D cy w z0 O827 e832 (iw (il 59) (by decide) (by decide)) ⟨p837, by rw [e835, p838]; omega, by rw [e831, e835, p838]; omega, by rw [e836, e835]; omega⟩) e832 rfl rfl rfl ⟨by decide, by decide⟩ (Nat.le_of_ble_eq_true rfl) dX12_readNext_187 ⟨(by decide), (by decide)⟩) (fun h840 K841 => ?_)
                    obtain ⟨O843, F844, p845, p846, p847⟩ := K841
                    obtain ⟨v848, e849⟩ : ∃ z, Iv h840 a0 7 = z := ⟨_, rfl⟩
                    have e850 : Tg h840 a0 = 12 := (fxT F844 e832)
                    have f851 := ok_I O843 e850 rI_12_7 e849
                    obtain ⟨v852, e853⟩ : ∃ z, Iv h840 a0 8 = z := ⟨_, rfl⟩
                    have f854 := ok_I O843 e850 rI_12_8 e853
                    have e855 : Iv h840 a0 28 = v7 := ((fxI F844 e832 rfl).trans e836)
                    obtain ⟨p856, p857, p858, p859⟩ := p845
                    have p860 := ((NT_fx O827 F844 e832 rfl).trans p838)
                    rw [e849, p860] at p857
                    rw [e853, e849, p860] at p858
                    rw [e855, e849] at p859
                    have p861 := p846
                    unfold ST at p861
                    rw [e835, e849, e836, e855, e831, e853] at p861
                    rw [e853, e849, e835] at p847
                    have p862 := (MInv_fx O827 F844 e832 rfl (MInv_fx O803 F828 e822 rfl (MInv_fx O774 F804 e793 rfl (MInv_fx O377 F775 e764 rfl (MInv_fx O348 F378 e367 rfl (MInv_fx O265 F349 e338 rfl (MInv_fx O236 F266 e255 rfl (MInv_fx O147 F237 e226 rfl (MInv_fx O60 F148 e137 rfl (MInv_fx O21 F61 e50 rfl (MInv_fx O F22 ta0 rfl P_MInv)))))))))))
                    exact g_vret C hr ⟨O843, ((((((((((((Fx.rf (wr := wr_k_X12_readNext)).call F22 rfl).call F61 rfl).call F148 rfl).call F237 rfl).call F266 rfl).call F349 rfl).call F378 rfl).call F775 rfl).call F804 rfl).call F828 rfl).call F844 rfl), ⟨p856, by rw [e849, p860]; omega, by rw [e853, e849, p860]; omega, by rw [e855, e849]; omega⟩, (by unfold ST; rw [e2, e849, e8, e855, e5, e853]; omega), p862, (fun z => by rw [e853] at z; omega), (by rw [e853, e2, e849]; omega)⟩ (by decide) (by decide) dX12_readNext_190
                  · have f863 : (1 : Int) ≤ r799 ∧ r799 ≤ (1 : Int) := r_nl f805 q820
                    refine g_aload_n C rfl 0 rfl dX12_readNext_172 ?_
                    have e864 : Tg h800 a0 = 12 := (fxT F804 e793)
                    have e865 : Iv h800 a0 7 = v1 := ((fxI F804 e793 rfl).trans e794)
                    have e866 : Iv h800 a0 8 = v4 := ((fxI F804 e793 rfl).trans e795)
                    have e867 : Iv h800 a0 28 = v7 := ((fxI F804 e793 rfl).trans e796)
                    have p868 := (TK_fx O774 F804 e793 rfl p797)
                    have p869 := ((NT_fx O774 F804 e793 rfl).trans p798)
                    refine g_callV (st := []) (gc_V C lk_LandSurveyModel_377 (k_X12_readRemain l D cy w z0 O803 e864 ⟨p868, by rw [e865, p869]; omega, by rw [e866, e865, p869]; omega, by rw [e867, e865]; omega⟩ (by rw [e866, e865, p869]; omega)) e864 rfl rfl rfl ⟨by decide, by decide⟩ (Nat.le_of_ble_eq_true rfl) dX12_readNext_173 ⟨(by decide), (by decide)⟩) (fun h871 K872 => ?_)
                    obtain ⟨O874, F875, p876, p877⟩ := K872
                    obtain ⟨v878, e879⟩ : ∃ z, Iv h871 a0 7 = z := ⟨_, rfl⟩
                    have e880 : Tg h871 a0 = 12 := (fxT F875 e864)
                    have f881 := ok_I O874 e880 rI_12_7 e879
                    obtain ⟨v882, e883⟩ : ∃ z, Iv h871 a0 8 = z := ⟨_, rfl⟩
                    have f884 := ok_I O874 e880 rI_12_8 e883
                    have e885 : Iv h871 a0 28 = v7 := ((fxI F875 e864 rfl).trans e867)
                    obtain ⟨p886, p887, p888, p889⟩ := p876
                    have p890 := ((NT_fx O803 F875 e864 rfl).trans p869)
                    rw [e879, p890] at p887
                    rw [e883, e879, p890] at p888
                    rw [e885, e879] at p889
                    have p891 := p877
                    unfold ST at p891
                    rw [e865, e879, e867, e885, e866, e883] at p891
                    refine g_goto C 184 (by decide) dX12_readNext_176 ?_
                    refine g_aload_n C rfl 0 rfl dX12_readNext_184 ?_
                    refine g_bipush C (by decide) dX12_readNext_185 ?_
                    refine g_callV (st := []) (gc_V C lk_LandSurveyModel_380 (k_X12_takeSign l D cy w z0 O874 e880 (iw (il 59) (by decide) (by decide)) ⟨p886, by rw [e879, p890]; omega, by rw [e883, e879, p890]; omega, by rw [e885, e879]; omega⟩) e880 rfl rfl rfl ⟨by decide, by decide⟩ (Nat.le_of_ble_eq_true rfl) dX12_readNext_187 ⟨(by decide), (by decide)⟩) (fun h893 K894 => ?_)
                    obtain ⟨O896, F897, p898, p899, p900⟩ := K894
                    obtain ⟨v901, e902⟩ : ∃ z, Iv h893 a0 7 = z := ⟨_, rfl⟩
                    have e903 : Tg h893 a0 = 12 := (fxT F897 e880)
                    have f904 := ok_I O896 e903 rI_12_7 e902
                    obtain ⟨v905, e906⟩ : ∃ z, Iv h893 a0 8 = z := ⟨_, rfl⟩
                    have f907 := ok_I O896 e903 rI_12_8 e906
                    have e908 : Iv h893 a0 28 = v7 := ((fxI F897 e880 rfl).trans e885)
                    obtain ⟨p909, p910, p911, p912⟩ := p898
                    have p913 := ((NT_fx O874 F897 e880 rfl).trans p890)
                    rw [e902, p913] at p910
                    rw [e906, e902, p913] at p911
                    rw [e908, e902] at p912
                    have p914 := p899
                    unfold ST at p914
                    rw [e879, e902, e885, e908, e883, e906] at p914
                    rw [e906, e902, e879] at p900
                    have p915 := (MInv_fx O874 F897 e880 rfl (MInv_fx O803 F875 e864 rfl (MInv_fx O774 F804 e793 rfl (MInv_fx O377 F775 e764 rfl (MInv_fx O348 F378 e367 rfl (MInv_fx O265 F349 e338 rfl (MInv_fx O236 F266 e255 rfl (MInv_fx O147 F237 e226 rfl (MInv_fx O60 F148 e137 rfl (MInv_fx O21 F61 e50 rfl (MInv_fx O F22 ta0 rfl P_MInv)))))))))))
                    have p916 := (DLf_mono O874 F897 e880 rfl p899.2.2 (DLf_mono O803 F875 e864 rfl p877.2.2 (DLf_fx O774 F804 e793 rfl (DLf_fx O377 F775 e764 rfl (DLf_fx O348 F378 e367 rfl (DLf_fx O265 F349 e338 rfl (DLf_fx O236 F266 e255 rfl (DLf_fx O147 F237 e226 rfl (DLf_fx O60 F148 e137 rfl (DLf_fx O21 F61 e50 rfl (DLf_fx O F22 ta0 rfl P_DLf)))))))))))
                    exact g_vret C hr ⟨O896, ((((((((((((Fx.rf (wr := wr_k_X12_readNext)).call F22 rfl).call F61 rfl).call F148 rfl).call F237 rfl).call F266 rfl).call F349 rfl).call F378 rfl).call F775 rfl).call F804 rfl).call F875 rfl).call F897 rfl), ⟨p909, by rw [e902, p913]; omega, by rw [e906, e902, p913]; omega, by rw [e908, e902]; omega⟩, (by unfold ST; rw [e2, e902, e8, e908, e5, e906]; omega), p915, p916, (by rw [e906, e2, e902]; omega)⟩ (by decide) (by decide) dX12_readNext_190
                · have f917 : (1 : Int) ≤ r770 ∧ r770 ≤ (1 : Int) := r_nl f776 q791
                  refine g_aload_n C rfl 0 rfl dX12_readNext_87 ?_
                  refine g_bipush C (by decide) dX12_readNext_88 ?_
                  have e918 : Tg h771 a0 = 12 := (fxT F775 e764)
                  have e919 : Iv h771 a0 7 = v1 := ((fxI F775 e764 rfl).trans e765)
                  have e920 : Iv h771 a0 8 = v4 := ((fxI F775 e764 rfl).trans e766)
                  have e921 : Iv h771 a0 28 = v7 := ((fxI F775 e764 rfl).trans e767)
                  have p922 := (TK_fx O377 F775 e764 rfl p768)
                  have p923 := ((NT_fx O377 F775 e764 rfl).trans p769)
                  refine g_callI (st := []) (gc_V C lk_LandSurveyModel_330 (k_X12_isWord l D cy w z0 O774 e918 (iw (il 7) (by decide) (by decide)) ⟨p922, by rw [e919, p923]; omega, by rw [e920, e919, p923]; omega, by rw [e921, e919]; omega⟩) e918 rfl rfl rfl ⟨by decide, by decide⟩ (Nat.le_of_ble_eq_true rfl) dX12_readNext_90 ⟨(by decide), (by decide)⟩) (fun r924 h925 f927 K926 => ?_)
                  obtain ⟨O928, F929, f930, p931, p932⟩ := K926
                  rw [e920, e919, p923] at p931
                  have e933 : Rv h771 a0 4 = v26 := ((fxR F775 e764 rfl).trans e779)
                  have e934 : Tg h374 v26 = 104100 := (fxT F378 e780)
                  have e935 : Iv h771 v26 v1.toNat = v30 := ((fxIa F775 e934 ar_104100 rfl).trans e781)
                  have e936 : Rv h771 a0 6 = v33 := ((fxR F775 e764 rfl).trans e782)
                  have e937 : Tg h374 v33 = 106102 := (fxT F378 e783)
                  have e938 : Jv h771 v33 v1.toNat = v37 := ((fxJa F775 e937 ar_106102 rfl).trans e784)
                  have e939 : Rv h771 a0 9 = v40 := ((fxR F775 e764 rfl).trans e785)
                  have e940 : Jv h771 v40 ((7 : Int).toNat) = v786 := ((fxJa F775 e788 ar_109102 rfl).trans e787)
                  rw [e920, e933, e919, e935, e936, e938, e939, e940] at p932
                  refine g_istore_n C [(1, .inl r924), (0, .inr (.inr a0))] rfl (by decide) rfl dX12_readNext_93 ?_
                  refine g_aload_n C rfl 1 rfl dX12_readNext_94 ?_
                  refine g_dup C rfl dX12_readNext_95 ?_
                  have e941 : Tg h925 a0 = 12 := (fxT F929 e918)
                  have e942 : Iv h925 a0 7 = v1 := ((fxI F929 e918 rfl).trans e919)
                  refine gf_I C fk_LandSurveyModel_317 rfl e941 e942 dX12_readNext_96 ?_
                  refine g_iconst C dX12_readNext_99 ?_
                  have f943 : (1 : Int) ≤ (v1 + 1) ∧ (v1 + 1) ≤ (1502 : Int) := ia_add f3 (il 1) (by decide) (by decide)
                  refine g_iadd C dX12_readNext_100 ?_
                  refine gp_I C fk_LandSurveyModel_317 pk_LandSurveyModel_7 rfl e941 (iw f943 (by decide) (by decide)) (nf_i _) dX12_readNext_101 (fun h945 hh944 => ?_)
                  have O946 := O928.pI e941 hh944 rI_12_7 (by omega) nofun
                  refine g_bipush C (by decide) dX12_readNext_104 ?_
                  refine g_aload_n C rfl 1 rfl dX12_readNext_106 ?_
                  have e947 : Tg h945 a0 = 12 := ((pIT hh944).trans e941)
                  have e948 : Iv h945 a0 8 = v4 := ((pI_j hh944 (by decide)).trans ((fxI F929 e918 rfl).trans e920))
                  have e949 : Iv h945 a0 28 = v7 := ((pI_j hh944 (by decide)).trans ((fxI F929 e918 rfl).trans e921))
                  have p950 := (TK_fx O928 ((Fx.rf (wr := [2407]) (h := h925)).pI e941 hh944 rfl) e941 rfl (TK_fx O774 F929 e918 rfl p922))
                  have p951 := ((NT_fx O928 ((Fx.rf (wr := [2407]) (h := h925)).pI e941 hh944 rfl) e941 rfl).trans ((NT_fx O774 F929 e918 rfl).trans p923))
                  refine g_callI (st := [.inl 80]) (gc_V C lk_LandSurveyModel_374 (k_X12_takeRock l D cy w z0 O946 e947 ⟨p950, by rw [(pI_e hh944), p951]; omega, by rw [e948, (pI_e hh944), p951]; omega, by rw [e949, (pI_e hh944)]; omega⟩) e947 rfl rfl rfl ⟨by decide, by decide⟩ (Nat.le_of_ble_eq_true rfl) dX12_readNext_107 ⟨(by decide), (by decide)⟩) (fun r952 h953 f955 K954 => ?_)
                  obtain ⟨O956, F957, f958, p959, p960⟩ := K954
                  obtain ⟨v961, e962⟩ : ∃ z, Iv h953 a0 7 = z := ⟨_, rfl⟩
                  have e963 : Tg h953 a0 = 12 := (fxT F957 e947)
                  have f964 := ok_I O956 e963 rI_12_7 e962
                  obtain ⟨v965, e966⟩ : ∃ z, Iv h953 a0 8 = z := ⟨_, rfl⟩
                  have f967 := ok_I O956 e963 rI_12_8 e966
                  have e968 : Iv h953 a0 28 = v7 := ((fxI F957 e947 rfl).trans e949)
                  obtain ⟨p969, p970, p971, p972⟩ := p959
                  have p973 := ((NT_fx O946 F957 e947 rfl).trans p951)
                  rw [e962, p973] at p970
                  rw [e966, e962, p973] at p971
                  rw [e968, e962] at p972
                  have p974 := p960
                  unfold ST at p974
                  rw [(pI_e hh944), e962, e949, e968, e948, e966] at p974
                  have f975 : (80 : Int) ≤ (80 + r952) ∧ (80 + r952) ≤ (89 : Int) := ia_add (il 80) f958 (by decide) (by decide)
                  refine g_iadd C dX12_readNext_110 ?_
                  refine g_istore_n C [(2, .inl (80 + r952)), (1, .inl r924), (0, .inr (.inr a0))] rfl (by decide) rfl dX12_readNext_111 ?_
                  refine g_aload_n C rfl 2 rfl dX12_readNext_112 ?_
                  obtain ⟨v976, e977⟩ : ∃ z, Rv h953 a0 17 = z := ⟨_, rfl⟩
                  have t978 := ok_R O956 e963 rE_12_17 e977
                  have l979 := ok_L O956 e963 rE_12_17 e977
                  refine gf_R C fk_LandSurveyModel_116 rfl e963 e977 dX12_readNext_113 ?_
                  refine g_iload_n C rfl 0 rfl dX12_readNext_116 ?_
                  refine g_aload_n C rfl 2 rfl dX12_readNext_117 ?_
                  refine gf_R C fk_LandSurveyModel_116 rfl e963 e977 dX12_readNext_118 ?_
                  refine g_iload_n C rfl 0 rfl dX12_readNext_121 ?_
                  obtain ⟨v980, e981⟩ : ∃ z, Iv h953 v976 ((80 + r952).toNat) = z := ⟨_, rfl⟩
                  have f982 := ok_Ia O956 t978 ar_117101 rI_117101_0 e981
                  refine g_zald C t978 rfl l979 (ix f975 (by decide) (by decide)) e981 dX12_readNext_122 ?_
                  refine g_if_ne C (iw f982 (by decide) (by decide)) 130 (by decide) dX12_readNext_123 (fun q983 => ?_) (fun q984 => ?_)
                  · have f985 : (1 : Int) ≤ v980 ∧ v980 ≤ (1 : Int) := r_nl f982 q983
                    refine g_iconst C dX12_readNext_130 ?_
                    refine g_goto C 135 (by decide) dX12_readNext_131 ?_
                    refine g_zast C t978 rfl l979 (ix f975 (by decide) (by decide)) (iw (il 1) (by decide) (by decide)) dX12_readNext_135 (fun h987 hh986 => ?_)
                    have O988 := O956.pIa t978 ar_117101 hh986 rI_117101_0 (iw (il 1) (by decide) (by decide)) nofun
                    refine g_aload_n C rfl 2 rfl dX12_readNext_136 ?_
                    have e989 : Tg h987 a0 = 12 := ((pIT hh986).trans e963)
                    obtain ⟨v990, e991⟩ : ∃ z, Rv h987 a0 16 = z := ⟨_, rfl⟩
                    have t992 := ok_R O988 e989 rE_12_16 e991
                    have l993 := ok_L O988 e989 rE_12_16 e991
                    refine gf_R C fk_LandSurveyModel_112 rfl e989 e991 dX12_readNext_137 ?_
                    refine g_iload_n C rfl 0 rfl dX12_readNext_140 ?_
                    refine g_aload_n C rfl 2 rfl dX12_readNext_141 ?_
                    refine gf_R C fk_LandSurveyModel_112 rfl e989 e991 dX12_readNext_142 ?_
                    refine g_iload_n C rfl 0 rfl dX12_readNext_145 ?_
                    obtain ⟨v994, e995⟩ : ∃ z, Iv h987 v990 ((80 + r952).toNat) = z := ⟨_, rfl⟩
                    have f996 := ok_Ia O988 t992 ar_116101 rI_116101_0 e995
                    refine g_zald C t992 rfl l993 (ix f975 (by decide) (by decide)) e995 dX12_readNext_146 ?_
                    refine g_if_ne C (iw f996 (by decide) (by decide)) 154 (by decide) dX12_readNext_147 (fun q997 => ?_) (fun q998 => ?_)
                    · have f999 : (1 : Int) ≤ v994 ∧ v994 ≤ (1 : Int) := r_nl f996 q997
                      refine g_iconst C dX12_readNext_154 ?_
                      refine g_goto C 159 (by decide) dX12_readNext_155 ?_
                      refine g_zast C t992 rfl l993 (ix f975 (by decide) (by decide)) (iw (il 1) (by decide) (by decide)) dX12_readNext_159 (fun h1001 hh1000 => ?_)
                      have O1002 := O988.pIa t992 ar_116101 hh1000 rI_116101_0 (iw (il 1) (by decide) (by decide)) nofun
                      refine g_goto C 184 (by decide) dX12_readNext_160 ?_
                      refine g_aload_n C rfl 2 rfl dX12_readNext_184 ?_
                      refine g_bipush C (by decide) dX12_readNext_185 ?_
                      have e1003 : Tg h1001 a0 = 12 := ((pIT hh1000).trans e989)
                      have e1004 : Iv h1001 a0 7 = v961 := ((pI_n hh1000 (ne_tag e989 t992 (by decide))).trans ((pI_n hh986 (ne_tag e963 t978 (by decide))).trans e962))
                      have e1005 : Iv h1001 a0 8 = v965 := ((pI_n hh1000 (ne_tag e989 t992 (by decide))).trans ((pI_n hh986 (ne_tag e963 t978 (by decide))).trans e966))
                      have e1006 : Iv h1001 a0 28 = v7 := ((pI_n hh1000 (ne_tag e989 t992 (by decide))).trans ((pI_n hh986 (ne_tag e963 t978 (by decide))).trans e968))
                      have p1007 := (TK_fx O988 ((Fx.rf (wr := [23220200]) (h := h987)).pIa t992 ar_116101 hh1000 rfl) e989 rfl (TK_fx O956 ((Fx.rf (wr := [23420200]) (h := h953)).pIa t978 ar_117101 hh986 rfl) e963 rfl p969))
                      have p1008 := ((NT_fx O988 ((Fx.rf (wr := [23220200]) (h := h987)).pIa t992 ar_116101 hh1000 rfl) e989 rfl).trans ((NT_fx O956 ((Fx.rf (wr := [23420200]) (h := h953)).pIa t978 ar_117101 hh986 rfl) e963 rfl).trans p973))
                      refine g_callV (st := []) (gc_V C lk_LandSurveyModel_380 (k_X12_takeSign l D cy w z0 O1002 e1003 (iw (il 59) (by decide) (by decide)) ⟨p1007, by rw [e1004, p1008]; omega, by rw [e1005, e1004, p1008]; omega, by rw [e1006, e1004]; omega⟩) e1003 rfl rfl rfl ⟨by decide, by decide⟩ (Nat.le_of_ble_eq_true rfl) dX12_readNext_187 ⟨(by decide), (by decide)⟩) (fun h1010 K1011 => ?_)
                      obtain ⟨O1013, F1014, p1015, p1016, p1017⟩ := K1011
                      obtain ⟨v1018, e1019⟩ : ∃ z, Iv h1010 a0 7 = z := ⟨_, rfl⟩
                      have e1020 : Tg h1010 a0 = 12 := (fxT F1014 e1003)
                      have f1021 := ok_I O1013 e1020 rI_12_7 e1019
                      obtain ⟨v1022, e1023⟩ : ∃ z, Iv h1010 a0 8 = z := ⟨_, rfl⟩
                      have f1024 := ok_I O1013 e1020 rI_12_8 e1023
                      have e1025 : Iv h1010 a0 28 = v7 := ((fxI F1014 e1003 rfl).trans e1006)
                      obtain ⟨p1026, p1027, p1028, p1029⟩ := p1015
                      have p1030 := ((NT_fx O1002 F1014 e1003 rfl).trans p1008)
                      rw [e1019, p1030] at p1027
                      rw [e1023, e1019, p1030] at p1028
                      rw [e1025, e1019] at p1029
                      have p1031 := p1016
                      unfold ST at p1031
                      rw [e1004, e1019, e1006, e1025, e1005, e1023] at p1031
                      rw [e1023, e1019, e1004] at p1017
                      have p1032 := (MInv_fx O1002 F1014 e1003 rfl (MInv_fx O988 ((Fx.rf (wr := [23220200]) (h := h987)).pIa t992 ar_116101 hh1000 rfl) e989 rfl (MInv_fx O956 ((Fx.rf (wr := [23420200]) (h := h953)).pIa t978 ar_117101 hh986 rfl) e963 rfl (MInv_fx O946 F957 e947 rfl (MInv_fx O928 ((Fx.rf (wr := [2407]) (h := h925)).pI e941 hh944 rfl) e941 rfl (MInv_fx O774 F929 e918 rfl (MInv_fx O377 F775 e764 rfl (MInv_fx O348 F378 e367 rfl (MInv_fx O265 F349 e338 rfl (MInv_fx O236 F266 e255 rfl (MInv_fx O147 F237 e226 rfl (MInv_fx O60 F148 e137 rfl (MInv_fx O21 F61 e50 rfl (MInv_fx O F22 ta0 rfl P_MInv))))))))))))))
                      have p1033 := (DLf_mono O1002 F1014 e1003 rfl p1016.2.2 (DLf_fx O988 ((Fx.rf (wr := [23220200]) (h := h987)).pIa t992 ar_116101 hh1000 rfl) e989 rfl (DLf_fx O956 ((Fx.rf (wr := [23420200]) (h := h953)).pIa t978 ar_117101 hh986 rfl) e963 rfl (DLf_mono O946 F957 e947 rfl p960.2.2 (DLf_fx O928 ((Fx.rf (wr := [2407]) (h := h925)).pI e941 hh944 rfl) e941 rfl (DLf_fx O774 F929 e918 rfl (DLf_fx O377 F775 e764 rfl (DLf_fx O348 F378 e367 rfl (DLf_fx O265 F349 e338 rfl (DLf_fx O236 F266 e255 rfl (DLf_fx O147 F237 e226 rfl (DLf_fx O60 F148 e137 rfl (DLf_fx O21 F61 e50 rfl (DLf_fx O F22 ta0 rfl P_DLf))))))))))))))
                      exact g_vret C hr ⟨O1013, (((((((((((((((Fx.rf (wr := wr_k_X12_readNext)).call F22 rfl).call F61 rfl).call F148 rfl).call F237 rfl).call F266 rfl).call F349 rfl).call F378 rfl).call F775 rfl).call F929 rfl).pI e941 hh944 rfl).call F957 rfl).pIa t978 ar_117101 hh986 rfl).pIa t992 ar_116101 hh1000 rfl).call F1014 rfl), ⟨p1026, by rw [e1019, p1030]; omega, by rw [e1023, e1019, p1030]; omega, by rw [e1025, e1019]; omega⟩, (by unfold ST; rw [e2, e1019, e8, e1025, e5, e1023]; omega), p1032, p1033, (by rw [e1023, e2, e1019]; omega)⟩ (by decide) (by decide) dX12_readNext_190
                    · have f1034 : (0 : Int) ≤ v994 ∧ v994 ≤ (0 : Int) := ii f996 (r_eq (il 0) q998) (by decide) (by decide)
                      refine g_iload_n C rfl 1 rfl dX12_readNext_150 ?_
                      refine g_if_ne C (iw f930 (by decide) (by decide)) 158 (by decide) dX12_readNext_151 (fun q1035 => ?_) (fun q1036 => ?_)
                      · have f1037 : (1 : Int) ≤ r924 ∧ r924 ≤ (1 : Int) := r_nl f930 q1035
                        refine g_iconst C dX12_readNext_158 ?_
                        refine g_zast C t992 rfl l993 (ix f975 (by decide) (by decide)) (iw (il 0) (by decide) (by decide)) dX12_readNext_159 (fun h1039 hh1038 => ?_)
                        have O1040 := O988.pIa t992 ar_116101 hh1038 rI_116101_0 (iw (il 0) (by decide) (by decide)) nofun
                        refine g_goto C 184 (by decide) dX12_readNext_160 ?_
                        refine g_aload_n C rfl 2 rfl dX12_readNext_184 ?_
                        refine g_bipush C (by decide) dX12_readNext_185 ?_
                        have e1041 : Tg h1039 a0 = 12 := ((pIT hh1038).trans e989)
                        have e1042 : Iv h1039 a0 7 = v961 := ((pI_n hh1038 (ne_tag e989 t992 (by decide))).trans ((pI_n hh986 (ne_tag e963 t978 (by decide))).trans e962))
                        have e1043 : Iv h1039 a0 8 = v965 := ((pI_n hh1038 (ne_tag e989 t992 (by decide))).trans ((pI_n hh986 (ne_tag e963 t978 (by decide))).trans e966))
                        have e1044 : Iv h1039 a0 28 = v7 := ((pI_n hh1038 (ne_tag e989 t992 (by decide))).trans ((pI_n hh986 (ne_tag e963 t978 (by decide))).trans e968))
                        have p1045 := (TK_fx O988 ((Fx.rf (wr := [23220200]) (h := h987)).pIa t992 ar_116101 hh1038 rfl) e989 rfl (TK_fx O956 ((Fx.rf (wr := [23420200]) (h := h953)).pIa t978 ar_117101 hh986 rfl) e963 rfl p969))
                        have p1046 := ((NT_fx O988 ((Fx.rf (wr := [23220200]) (h := h987)).pIa t992 ar_116101 hh1038 rfl) e989 rfl).trans ((NT_fx O956 ((Fx.rf (wr := [23420200]) (h := h953)).pIa t978 ar_117101 hh986 rfl) e963 rfl).trans p973))
                        refine g_callV (st := []) (gc_V C lk_LandSurveyModel_380 (k_X12_takeSign l D cy w z0 O1040 e1041 (iw (il 59) (by decide) (by decide)) ⟨p1045, by rw [e1042, p1046]; omega, by rw [e1043, e1042, p1046]; omega, by rw [e1044, e1042]; omega⟩) e1041 rfl rfl rfl ⟨by decide, by decide⟩ (Nat.le_of_ble_eq_true rfl) dX12_readNext_187 ⟨(by decide), (by decide)⟩) (fun h1048 K1049 => ?_)
                        obtain ⟨O1051, F1052, p1053, p1054, p1055⟩ := K1049
                        obtain ⟨v1056, e1057⟩ : ∃ z, Iv h1048 a0 7 = z := ⟨_, rfl⟩
                        have e1058 : Tg h1048 a0 = 12 := (fxT F1052 e1041)
                        have f1059 := ok_I O1051 e1058 rI_12_7 e1057
                        obtain ⟨v1060, e1061⟩ : ∃ z, Iv h1048 a0 8 = z := ⟨_, rfl⟩
                        have f1062 := ok_I O1051 e1058 rI_12_8 e1061
                        have e1063 : Iv h1048 a0 28 = v7 := ((fxI F1052 e1041 rfl).trans e1044)
                        obtain ⟨p1064, p1065, p1066, p1067⟩ := p1053
                        have p1068 := ((NT_fx O1040 F1052 e1041 rfl).trans p1046)
                        rw [e1057, p1068] at p1065
                        rw [e1061, e1057, p1068] at p1066
                        rw [e1063, e1057] at p1067
                        have p1069 := p1054
                        unfold ST at p1069
                        rw [e1042, e1057, e1044, e1063, e1043, e1061] at p1069
                        rw [e1061, e1057, e1042] at p1055
                        have p1070 := (MInv_fx O1040 F1052 e1041 rfl (MInv_fx O988 ((Fx.rf (wr := [23220200]) (h := h987)).pIa t992 ar_116101 hh1038 rfl) e989 rfl (MInv_fx O956 ((Fx.rf (wr := [23420200]) (h := h953)).pIa t978 ar_117101 hh986 rfl) e963 rfl (MInv_fx O946 F957 e947 rfl (MInv_fx O928 ((Fx.rf (wr := [2407]) (h := h925)).pI e941 hh944 rfl) e941 rfl (MInv_fx O774 F929 e918 rfl (MInv_fx O377 F775 e764 rfl (MInv_fx O348 F378 e367 rfl (MInv_fx O265 F349 e338 rfl (MInv_fx O236 F266 e255 rfl (MInv_fx O147 F237 e226 rfl (MInv_fx O60 F148 e137 rfl (MInv_fx O21 F61 e50 rfl (MInv_fx O F22 ta0 rfl P_MInv))))))))))))))
                        have p1071 := (DLf_mono O1040 F1052 e1041 rfl p1054.2.2 (DLf_fx O988 ((Fx.rf (wr := [23220200]) (h := h987)).pIa t992 ar_116101 hh1038 rfl) e989 rfl (DLf_fx O956 ((Fx.rf (wr := [23420200]) (h := h953)).pIa t978 ar_117101 hh986 rfl) e963 rfl (DLf_mono O946 F957 e947 rfl p960.2.2 (DLf_fx O928 ((Fx.rf (wr := [2407]) (h := h925)).pI e941 hh944 rfl) e941 rfl (DLf_fx O774 F929 e918 rfl (DLf_fx O377 F775 e764 rfl (DLf_fx O348 F378 e367 rfl (DLf_fx O265 F349 e338 rfl (DLf_fx O236 F266 e255 rfl (DLf_fx O147 F237 e226 rfl (DLf_fx O60 F148 e137 rfl (DLf_fx O21 F61 e50 rfl (DLf_fx O F22 ta0 rfl P_DLf))))))))))))))
                        exact g_vret C hr ⟨O1051, (((((((((((((((Fx.rf (wr := wr_k_X12_readNext)).call F22 rfl).call F61 rfl).call F148 rfl).call F237 rfl).call F266 rfl).call F349 rfl).call F378 rfl).call F775 rfl).call F929 rfl).pI e941 hh944 rfl).call F957 rfl).pIa t978 ar_117101 hh986 rfl).pIa t992 ar_116101 hh1038 rfl).call F1052 rfl), ⟨p1064, by rw [e1057, p1068]; omega, by rw [e1061, e1057, p1068]; omega, by rw [e1063, e1057]; omega⟩, (by unfold ST; rw [e2, e1057, e8, e1063, e5, e1061]; omega), p1070, p1071, (by rw [e1061, e2, e1057]; omega)⟩ (by decide) (by decide) dX12_readNext_190
                      · have f1072 : (0 : Int) ≤ r924 ∧ r924 ≤ (0 : Int) := ii f930 (r_eq (il 0) q1036) (by decide) (by decide)
                        refine g_iconst C dX12_readNext_154 ?_
                        refine g_goto C 159 (by decide) dX12_readNext_155 ?_
                        refine g_zast C t992 rfl l993 (ix f975 (by decide) (by decide)) (iw (il 1) (by decide) (by decide)) dX12_readNext_159 (fun h1074 hh1073 => ?_)
                        have O1075 := O988.pIa t992 ar_116101 hh1073 rI_116101_0 (iw (il 1) (by decide) (by decide)) nofun
                        refine g_goto C 184 (by decide) dX12_readNext_160 ?_
                        refine g_aload_n C rfl 2 rfl dX12_readNext_184 ?_
                        refine g_bipush C (by decide) dX12_readNext_185 ?_
                        have e1076 : Tg h1074 a0 = 12 := ((pIT hh1073).trans e989)
                        have e1077 : Iv h1074 a0 7 = v961 := ((pI_n hh1073 (ne_tag e989 t992 (by decide))).trans ((pI_n hh986 (ne_tag e963 t978 (by decide))).trans e962))
                        have e1078 : Iv h1074 a0 8 = v965 := ((pI_n hh1073 (ne_tag e989 t992 (by decide))).trans ((pI_n hh986 (ne_tag e963 t978 (by decide))).trans e966))
                        have e1079 : Iv h1074 a0 28 = v7 := ((pI_n hh1073 (ne_tag e989 t992 (by decide))).trans ((pI_n hh986 (ne_tag e963 t978 (by decide))).trans e968))
                        have p1080 := (TK_fx O988 ((Fx.rf (wr := [23220200]) (h := h987)).pIa t992 ar_116101 hh1073 rfl) e989 rfl (TK_fx O956 ((Fx.rf (wr := [23420200]) (h := h953)).pIa t978 ar_117101 hh986 rfl) e963 rfl p969))
                        have p1081 := ((NT_fx O988 ((Fx.rf (wr := [23220200]) (h := h987)).pIa t992 ar_116101 hh1073 rfl) e989 rfl).trans ((NT_fx O956 ((Fx.rf (wr := [23420200]) (h := h953)).pIa t978 ar_117101 hh986 rfl) e963 rfl).trans p973))
                        refine g_callV (st := []) (gc_V C lk_LandSurveyModel_380 (k_X12_takeSign l D cy w z0 O1075 e1076 (iw (il 59) (by decide) (by decide)) ⟨p1080, by rw [e1077, p1081]; omega, by rw [e1078, e1077, p1081]; omega, by rw [e1079, e1077]; omega⟩) e1076 rfl rfl rfl ⟨by decide, by decide⟩ (Nat.le_of_ble_eq_true rfl) dX12_readNext_187 ⟨(by decide), (by decide)⟩) (fun h1083 K1084 => ?_)
                        obtain ⟨O1086, F1087, p1088, p1089, p1090⟩ := K1084
                        obtain ⟨v1091, e1092⟩ : ∃ z, Iv h1083 a0 7 = z := ⟨_, rfl⟩
                        have e1093 : Tg h1083 a0 = 12 := (fxT F1087 e1076)
                        have f1094 := ok_I O1086 e1093 rI_12_7 e1092
                        obtain ⟨v1095, e1096⟩ : ∃ z, Iv h1083 a0 8 = z := ⟨_, rfl⟩
                        have f1097 := ok_I O1086 e1093 rI_12_8 e1096
                        have e1098 : Iv h1083 a0 28 = v7 := ((fxI F1087 e1076 rfl).trans e1079)
                        obtain ⟨p1099, p1100, p1101, p1102⟩ := p1088
                        have p1103 := ((NT_fx O1075 F1087 e1076 rfl).trans p1081)
                        rw [e1092, p1103] at p1100
                        rw [e1096, e1092, p1103] at p1101
                        rw [e1098, e1092] at p1102
                        have p1104 := p1089
                        unfold ST at p1104
                        rw [e1077, e1092, e1079, e1098, e1078, e1096] at p1104
                        rw [e1096, e1092, e1077] at p1090
                        have p1105 := (MInv_fx O1075 F1087 e1076 rfl (MInv_fx O988 ((Fx.rf (wr := [23220200]) (h := h987)).pIa t992 ar_116101 hh1073 rfl) e989 rfl (MInv_fx O956 ((Fx.rf (wr := [23420200]) (h := h953)).pIa t978 ar_117101 hh986 rfl) e963 rfl (MInv_fx O946 F957 e947 rfl (MInv_fx O928 ((Fx.rf (wr := [2407]) (h := h925)).pI e941 hh944 rfl) e941 rfl (MInv_fx O774 F929 e918 rfl (MInv_fx O377 F775 e764 rfl (MInv_fx O348 F378 e367 rfl (MInv_fx O265 F349 e338 rfl (MInv_fx O236 F266 e255 rfl (MInv_fx O147 F237 e226 rfl (MInv_fx O60 F148 e137 rfl (MInv_fx O21 F61 e50 rfl (MInv_fx O F22 ta0 rfl P_MInv))))))))))))))
                        have p1106 := (DLf_mono O1075 F1087 e1076 rfl p1089.2.2 (DLf_fx O988 ((Fx.rf (wr := [23220200]) (h := h987)).pIa t992 ar_116101 hh1073 rfl) e989 rfl (DLf_fx O956 ((Fx.rf (wr := [23420200]) (h := h953)).pIa t978 ar_117101 hh986 rfl) e963 rfl (DLf_mono O946 F957 e947 rfl p960.2.2 (DLf_fx O928 ((Fx.rf (wr := [2407]) (h := h925)).pI e941 hh944 rfl) e941 rfl (DLf_fx O774 F929 e918 rfl (DLf_fx O377 F775 e764 rfl (DLf_fx O348 F378 e367 rfl (DLf_fx O265 F349 e338 rfl (DLf_fx O236 F266 e255 rfl (DLf_fx O147 F237 e226 rfl (DLf_fx O60 F148 e137 rfl (DLf_fx O21 F61 e50 rfl (DLf_fx O F22 ta0 rfl P_DLf))))))))))))))
                        exact g_vret C hr ⟨O1086, (((((((((((((((Fx.rf (wr := wr_k_X12_readNext)).call F22 rfl).call F61 rfl).call F148 rfl).call F237 rfl).call F266 rfl).call F349 rfl).call F378 rfl).call F775 rfl).call F929 rfl).pI e941 hh944 rfl).call F957 rfl).pIa t978 ar_117101 hh986 rfl).pIa t992 ar_116101 hh1073 rfl).call F1087 rfl), ⟨p1099, by rw [e1092, p1103]; omega, by rw [e1096, e1092, p1103]; omega, by rw [e1098, e1092]; omega⟩, (by unfold ST; rw [e2, e1092, e8, e1098, e5, e1096]; omega), p1105, p1106, (by rw [e1096, e2, e1092]; omega)⟩ (by decide) (by decide) dX12_readNext_190
                  · have f1107 : (0 : Int) ≤ v980 ∧ v980 ≤ (0 : Int) := ii f982 (r_eq (il 0) q984) (by decide) (by decide)
                    refine g_iload_n C rfl 1 rfl dX12_readNext_126 ?_
                    refine g_if_eq C (iw f930 (by decide) (by decide)) 134 (by decide) dX12_readNext_127 (fun q1108 => ?_) (fun q1109 => ?_)
                    · have f1110 : (0 : Int) ≤ r924 ∧ r924 ≤ (0 : Int) := ii f930 (r_eq (il 0) q1108) (by decide) (by decide)
                      refine g_iconst C dX12_readNext_134 ?_
                      refine g_zast C t978 rfl l979 (ix f975 (by decide) (by decide)) (iw (il 0) (by decide) (by decide)) dX12_readNext_135 (fun h1112 hh1111 => ?_)
                      have O1113 := O956.pIa t978 ar_117101 hh1111 rI_117101_0 (iw (il 0) (by decide) (by decide)) nofun
                      refine g_aload_n C rfl 2 rfl dX12_readNext_136 ?_
                      have e1114 : Tg h1112 a0 = 12 := ((pIT hh1111).trans e963)
                      obtain ⟨v1115, e1116⟩ : ∃ z, Rv h1112 a0 16 = z := ⟨_, rfl⟩
                      have t1117 := ok_R O1113 e1114 rE_12_16 e1116
                      have l1118 := ok_L O1113 e1114 rE_12_16 e1116
                      refine gf_R C fk_LandSurveyModel_112 rfl e1114 e1116 dX12_readNext_137 ?_
                      refine g_iload_n C rfl 0 rfl dX12_readNext_140 ?_
                      refine g_aload_n C rfl 2 rfl dX12_readNext_141 ?_
                      refine gf_R C fk_LandSurveyModel_112 rfl e1114 e1116 dX12_readNext_142 ?_
                      refine g_iload_n C rfl 0 rfl dX12_readNext_145 ?_
                      obtain ⟨v1119, e1120⟩ : ∃ z, Iv h1112 v1115 ((80 + r952).toNat) = z := ⟨_, rfl⟩
                      have f1121 := ok_Ia O1113 t1117 ar_116101 rI_116101_0 e1120
                      refine g_zald C t1117 rfl l1118 (ix f975 (by decide) (by decide)) e1120 dX12_readNext_146 ?_
                      refine g_if_ne C (iw f1121 (by decide) (by decide)) 154 (by decide) dX12_readNext_147 (fun q1122 => ?_) (fun q1123 => ?_)
                      · have f1124 : (1 : Int) ≤ v1119 ∧ v1119 ≤ (1 : Int) := r_nl f1121 q1122
                        refine g_iconst C dX12_readNext_154 ?_
                        refine g_goto C 159 (by decide) dX12_readNext_155 ?_
                        refine g_zast C t1117 rfl l1118 (ix f975 (by decide) (by decide)) (iw (il 1) (by decide) (by decide)) dX12_readNext_159 (fun h1126 hh1125 => ?_)
                        have O1127 := O1113.pIa t1117 ar_116101 hh1125 rI_116101_0 (iw (il 1) (by decide) (by decide)) nofun
                        refine g_goto C 184 (by decide) dX12_readNext_160 ?_
                        refine g_aload_n C rfl 2 rfl dX12_readNext_184 ?_
                        refine g_bipush C (by decide) dX12_readNext_185 ?_
                        have e1128 : Tg h1126 a0 = 12 := ((pIT hh1125).trans e1114)
                        have e1129 : Iv h1126 a0 7 = v961 := ((pI_n hh1125 (ne_tag e1114 t1117 (by decide))).trans ((pI_n hh1111 (ne_tag e963 t978 (by decide))).trans e962))
                        have e1130 : Iv h1126 a0 8 = v965 := ((pI_n hh1125 (ne_tag e1114 t1117 (by decide))).trans ((pI_n hh1111 (ne_tag e963 t978 (by decide))).trans e966))
                        have e1131 : Iv h1126 a0 28 = v7 := ((pI_n hh1125 (ne_tag e1114 t1117 (by decide))).trans ((pI_n hh1111 (ne_tag e963 t978 (by decide))).trans e968))
                        have p1132 := (TK_fx O1113 ((Fx.rf (wr := [23220200]) (h := h1112)).pIa t1117 ar_116101 hh1125 rfl) e1114 rfl (TK_fx O956 ((Fx.rf (wr := [23420200]) (h := h953)).pIa t978 ar_117101 hh1111 rfl) e963 rfl p969))
                        have p1133 := ((NT_fx O1113 ((Fx.rf (wr := [23220200]) (h := h1112)).pIa t1117 ar_116101 hh1125 rfl) e1114 rfl).trans ((NT_fx O956 ((Fx.rf (wr := [23420200]) (h := h953)).pIa t978 ar_117101 hh1111 rfl) e963 rfl).trans p973))
                        refine g_callV (st := []) (gc_V C lk_LandSurveyModel_380 (k_X12_takeSign l D cy w z0 O1127 e1128 (iw (il 59) (by decide) (by decide)) ⟨p1132, by rw [e1129, p1133]; omega, by rw [e1130, e1129, p1133]; omega, by rw [e1131, e1129]; omega⟩) e1128 rfl rfl rfl ⟨by decide, by decide⟩ (Nat.le_of_ble_eq_true rfl) dX12_readNext_187 ⟨(by decide), (by decide)⟩) (fun h1135 K1136 => ?_)
                        obtain ⟨O1138, F1139, p1140, p1141, p1142⟩ := K1136
                        obtain ⟨v1143, e1144⟩ : ∃ z, Iv h1135 a0 7 = z := ⟨_, rfl⟩
                        have e1145 : Tg h1135 a0 = 12 := (fxT F1139 e1128)
                        have f1146 := ok_I O1138 e1145 rI_12_7 e1144
                        obtain ⟨v1147, e1148⟩ : ∃ z, Iv h1135 a0 8 = z := ⟨_, rfl⟩
                        have f1149 := ok_I O1138 e1145 rI_12_8 e1148
                        have e1150 : Iv h1135 a0 28 = v7 := ((fxI F1139 e1128 rfl).trans e1131)
                        obtain ⟨p1151, p1152, p1153, p1154⟩ := p1140
                        have p1155 := ((NT_fx O1127 F1139 e1128 rfl).trans p1133)
                        rw [e1144, p1155] at p1152
                        rw [e1148, e1144, p1155] at p1153
                        rw [e1150, e1144] at p1154
                        have p1156 := p1141
                        unfold ST at p1156
                        rw [e1129, e1144, e1131, e1150, e1130, e1148] at p1156
                        rw [e1148, e1144, e1129] at p1142
                        have p1157 := (MInv_fx O1127 F1139 e1128 rfl (MInv_fx O1113 ((Fx.rf (wr := [23220200]) (h := h1112)).pIa t1117 ar_116101 hh1125 rfl) e1114 rfl (MInv_fx O956 ((Fx.rf (wr := [23420200]) (h := h953)).pIa t978 ar_117101 hh1111 rfl) e963 rfl (MInv_fx O946 F957 e947 rfl (MInv_fx O928 ((Fx.rf (wr := [2407]) (h := h925)).pI e941 hh944 rfl) e941 rfl (MInv_fx O774 F929 e918 rfl (MInv_fx O377 F775 e764 rfl (MInv_fx O348 F378 e367 rfl (MInv_fx O265 F349 e338 rfl (MInv_fx O236 F266 e255 rfl (MInv_fx O147 F237 e226 rfl (MInv_fx O60 F148 e137 rfl (MInv_fx O21 F61 e50 rfl (MInv_fx O F22 ta0 rfl P_MInv))))))))))))))
                        have p1158 := (DLf_mono O1127 F1139 e1128 rfl p1141.2.2 (DLf_fx O1113 ((Fx.rf (wr := [23220200]) (h := h1112)).pIa t1117 ar_116101 hh1125 rfl) e1114 rfl (DLf_fx O956 ((Fx.rf (wr := [23420200]) (h := h953)).pIa t978 ar_117101 hh1111 rfl) e963 rfl (DLf_mono O946 F957 e947 rfl p960.2.2 (DLf_fx O928 ((Fx.rf (wr := [2407]) (h := h925)).pI e941 hh944 rfl) e941 rfl (DLf_fx O774 F929 e918 rfl (DLf_fx O377 F775 e764 rfl (DLf_fx O348 F378 e367 rfl (DLf_fx O265 F349 e338 rfl (DLf_fx O236 F266 e255 rfl (DLf_fx O147 F237 e226 rfl (DLf_fx O60 F148 e137 rfl (DLf_fx O21 F61 e50 rfl (DLf_fx O F22 ta0 rfl P_DLf))))))))))))))
                        exact g_vret C hr ⟨O1138, (((((((((((((((Fx.rf (wr := wr_k_X12_readNext)).call F22 rfl).call F61 rfl).call F148 rfl).call F237 rfl).call F266 rfl).call F349 rfl).call F378 rfl).call F775 rfl).call F929 rfl).pI e941 hh944 rfl).call F957 rfl).pIa t978 ar_117101 hh1111 rfl).pIa t1117 ar_116101 hh1125 rfl).call F1139 rfl), ⟨p1151, by rw [e1144, p1155]; omega, by rw [e1148, e1144, p1155]; omega, by rw [e1150, e1144]; omega⟩, (by unfold ST; rw [e2, e1144, e8, e1150, e5, e1148]; omega), p1157, p1158, (by rw [e1148, e2, e1144]; omega)⟩ (by decide) (by decide) dX12_readNext_190
                      · have f1159 : (0 : Int) ≤ v1119 ∧ v1119 ≤ (0 : Int) := ii f1121 (r_eq (il 0) q1123) (by decide) (by decide)
                        refine g_iload_n C rfl 1 rfl dX12_readNext_150 ?_
                        refine g_if_ne C (iw f1110 (by decide) (by decide)) 158 (by decide) dX12_readNext_151 (fun q1160 => ?_) (fun q1161 => ?_)
                        · exact (no_ne f1110 (il 0) q1160 (by decide)).elim
                        · refine g_iconst C dX12_readNext_154 ?_
                          refine g_goto C 159 (by decide) dX12_readNext_155 ?_
                          refine g_zast C t1117 rfl l1118 (ix f975 (by decide) (by decide)) (iw (il 1) (by decide) (by decide)) dX12_readNext_159 (fun h1163 hh1162 => ?_)
                          have O1164 := O1113.pIa t1117 ar_116101 hh1162 rI_116101_0 (iw (il 1) (by decide) (by decide)) nofun
                          refine g_goto C 184 (by decide) dX12_readNext_160 ?_
                          refine g_aload_n C rfl 2 rfl dX12_readNext_184 ?_
                          refine g_bipush C (by decide) dX12_readNext_185 ?_
                          have e1165 : Tg h1163 a0 = 12 := ((pIT hh1162).trans e1114)
                          have e1166 : Iv h1163 a0 7 = v961 := ((pI_n hh1162 (ne_tag e1114 t1117 (by decide))).trans ((pI_n hh1111 (ne_tag e963 t978 (by decide))).trans e962))
                          have e1167 : Iv h1163 a0 8 = v965 := ((pI_n hh1162 (ne_tag e1114 t1117 (by decide))).trans ((pI_n hh1111 (ne_tag e963 t978 (by decide))).trans e966))
                          have e1168 : Iv h1163 a0 28 = v7 := ((pI_n hh1162 (ne_tag e1114 t1117 (by decide))).trans ((pI_n hh1111 (ne_tag e963 t978 (by decide))).trans e968))
                          have p1169 := (TK_fx O1113 ((Fx.rf (wr := [23220200]) (h := h1112)).pIa t1117 ar_116101 hh1162 rfl) e1114 rfl (TK_fx O956 ((Fx.rf (wr := [23420200]) (h := h953)).pIa t978 ar_117101 hh1111 rfl) e963 rfl p969))
                          have p1170 := ((NT_fx O1113 ((Fx.rf (wr := [23220200]) (h := h1112)).pIa t1117 ar_116101 hh1162 rfl) e1114 rfl).trans ((NT_fx O956 ((Fx.rf (wr := [23420200]) (h := h953)).pIa t978 ar_117101 hh1111 rfl) e963 rfl).trans p973))
                          refine g_callV (st := []) (gc_V C lk_LandSurveyModel_380 (k_X12_takeSign l D cy w z0 O1164 e1165 (iw (il 59) (by decide) (by decide)) ⟨p1169, by rw [e1166, p1170]; omega, by rw [e1167, e1166, p1170]; omega, by rw [e1168, e1166]; omega⟩) e1165 rfl rfl rfl ⟨by decide, by decide⟩ (Nat.le_of_ble_eq_true rfl) dX12_readNext_187 ⟨(by decide), (by decide)⟩) (fun h1172 K1173 => ?_)
                          obtain ⟨O1175, F1176, p1177, p1178, p1179⟩ := K1173
                          obtain ⟨v1180, e1181⟩ : ∃ z, Iv h1172 a0 7 = z := ⟨_, rfl⟩
                          have e1182 : Tg h1172 a0 = 12 := (fxT F1176 e1165)
                          have f1183 := ok_I O1175 e1182 rI_12_7 e1181
                          obtain ⟨v1184, e1185⟩ : ∃ z, Iv h1172 a0 8 = z := ⟨_, rfl⟩
                          have f1186 := ok_I O1175 e1182 rI_12_8 e1185
                          have e1187 : Iv h1172 a0 28 = v7 := ((fxI F1176 e1165 rfl).trans e1168)
                          obtain ⟨p1188, p1189, p1190, p1191⟩ := p1177
                          have p1192 := ((NT_fx O1164 F1176 e1165 rfl).trans p1170)
                          rw [e1181, p1192] at p1189
                          rw [e1185, e1181, p1192] at p1190
                          rw [e1187, e1181] at p1191
                          have p1193 := p1178
                          unfold ST at p1193
                          rw [e1166, e1181, e1168, e1187, e1167, e1185] at p1193
                          rw [e1185, e1181, e1166] at p1179
                          have p1194 := (MInv_fx O1164 F1176 e1165 rfl (MInv_fx O1113 ((Fx.rf (wr := [23220200]) (h := h1112)).pIa t1117 ar_116101 hh1162 rfl) e1114 rfl (MInv_fx O956 ((Fx.rf (wr := [23420200]) (h := h953)).pIa t978 ar_117101 hh1111 rfl) e963 rfl (MInv_fx O946 F957 e947 rfl (MInv_fx O928 ((Fx.rf (wr := [2407]) (h := h925)).pI e941 hh944 rfl) e941 rfl (MInv_fx O774 F929 e918 rfl (MInv_fx O377 F775 e764 rfl (MInv_fx O348 F378 e367 rfl (MInv_fx O265 F349 e338 rfl (MInv_fx O236 F266 e255 rfl (MInv_fx O147 F237 e226 rfl (MInv_fx O60 F148 e137 rfl (MInv_fx O21 F61 e50 rfl (MInv_fx O F22 ta0 rfl P_MInv))))))))))))))
                          have p1195 := (DLf_mono O1164 F1176 e1165 rfl p1178.2.2 (DLf_fx O1113 ((Fx.rf (wr := [23220200]) (h := h1112)).pIa t1117 ar_116101 hh1162 rfl) e1114 rfl (DLf_fx O956 ((Fx.rf (wr := [23420200]) (h := h953)).pIa t978 ar_117101 hh1111 rfl) e963 rfl (DLf_mono O946 F957 e947 rfl p960.2.2 (DLf_fx O928 ((Fx.rf (wr := [2407]) (h := h925)).pI e941 hh944 rfl) e941 rfl (DLf_fx O774 F929 e918 rfl (DLf_fx O377 F775 e764 rfl (DLf_fx O348 F378 e367 rfl (DLf_fx O265 F349 e338 rfl (DLf_fx O236 F266 e255 rfl (DLf_fx O147 F237 e226 rfl (DLf_fx O60 F148 e137 rfl (DLf_fx O21 F61 e50 rfl (DLf_fx O F22 ta0 rfl P_DLf))))))))))))))
                          exact g_vret C hr ⟨O1175, (((((((((((((((Fx.rf (wr := wr_k_X12_readNext)).call F22 rfl).call F61 rfl).call F148 rfl).call F237 rfl).call F266 rfl).call F349 rfl).call F378 rfl).call F775 rfl).call F929 rfl).pI e941 hh944 rfl).call F957 rfl).pIa t978 ar_117101 hh1111 rfl).pIa t1117 ar_116101 hh1162 rfl).call F1176 rfl), ⟨p1188, by rw [e1181, p1192]; omega, by rw [e1185, e1181, p1192]; omega, by rw [e1187, e1181]; omega⟩, (by unfold ST; rw [e2, e1181, e8, e1187, e5, e1185]; omega), p1194, p1195, (by rw [e1185, e2, e1181]; omega)⟩ (by decide) (by decide) dX12_readNext_190
                    · have f1196 : (1 : Int) ≤ r924 ∧ r924 ≤ (1 : Int) := r_nl f930 q1109
                      refine g_iconst C dX12_readNext_130 ?_
                      refine g_goto C 135 (by decide) dX12_readNext_131 ?_
                      refine g_zast C t978 rfl l979 (ix f975 (by decide) (by decide)) (iw (il 1) (by decide) (by decide)) dX12_readNext_135 (fun h1198 hh1197 => ?_)
                      have O1199 := O956.pIa t978 ar_117101 hh1197 rI_117101_0 (iw (il 1) (by decide) (by decide)) nofun
                      refine g_aload_n C rfl 2 rfl dX12_readNext_136 ?_
                      have e1200 : Tg h1198 a0 = 12 := ((pIT hh1197).trans e963)
                      obtain ⟨v1201, e1202⟩ : ∃ z, Rv h1198 a0 16 = z := ⟨_, rfl⟩
                      have t1203 := ok_R O1199 e1200 rE_12_16 e1202
                      have l1204 := ok_L O1199 e1200 rE_12_16 e1202
                      refine gf_R C fk_LandSurveyModel_112 rfl e1200 e1202 dX12_readNext_137 ?_
                      refine g_iload_n C rfl 0 rfl dX12_readNext_140 ?_
                      refine g_aload_n C rfl 2 rfl dX12_readNext_141 ?_
                      refine gf_R C fk_LandSurveyModel_112 rfl e1200 e1202 dX12_readNext_142 ?_
                      refine g_iload_n C rfl 0 rfl dX12_readNext_145 ?_
                      obtain ⟨v1205, e1206⟩ : ∃ z, Iv h1198 v1201 ((80 + r952).toNat) = z := ⟨_, rfl⟩
                      have f1207 := ok_Ia O1199 t1203 ar_116101 rI_116101_0 e1206
                      refine g_zald C t1203 rfl l1204 (ix f975 (by decide) (by decide)) e1206 dX12_readNext_146 ?_
                      refine g_if_ne C (iw f1207 (by decide) (by decide)) 154 (by decide) dX12_readNext_147 (fun q1208 => ?_) (fun q1209 => ?_)
                      · have f1210 : (1 : Int) ≤ v1205 ∧ v1205 ≤ (1 : Int) := r_nl f1207 q1208
                        refine g_iconst C dX12_readNext_154 ?_
                        refine g_goto C 159 (by decide) dX12_readNext_155 ?_
                        refine g_zast C t1203 rfl l1204 (ix f975 (by decide) (by decide)) (iw (il 1) (by decide) (by decide)) dX12_readNext_159 (fun h1212 hh1211 => ?_)
                        have O1213 := O1199.pIa t1203 ar_116101 hh1211 rI_116101_0 (iw (il 1) (by decide) (by decide)) nofun
                        refine g_goto C 184 (by decide) dX12_readNext_160 ?_
                        refine g_aload_n C rfl 2 rfl dX12_readNext_184 ?_
                        refine g_bipush C (by decide) dX12_readNext_185 ?_
                        have e1214 : Tg h1212 a0 = 12 := ((pIT hh1211).trans e1200)
                        have e1215 : Iv h1212 a0 7 = v961 := ((pI_n hh1211 (ne_tag e1200 t1203 (by decide))).trans ((pI_n hh1197 (ne_tag e963 t978 (by decide))).trans e962))
                        have e1216 : Iv h1212 a0 8 = v965 := ((pI_n hh1211 (ne_tag e1200 t1203 (by decide))).trans ((pI_n hh1197 (ne_tag e963 t978 (by decide))).trans e966))
                        have e1217 : Iv h1212 a0 28 = v7 := ((pI_n hh1211 (ne_tag e1200 t1203 (by decide))).trans ((pI_n hh1197 (ne_tag e963 t978 (by decide))).trans e968))
                        have p1218 := (TK_fx O1199 ((Fx.rf (wr := [23220200]) (h := h1198)).pIa t1203 ar_116101 hh1211 rfl) e1200 rfl (TK_fx O956 ((Fx.rf (wr := [23420200]) (h := h953)).pIa t978 ar_117101 hh1197 rfl) e963 rfl p969))
                        have p1219 := ((NT_fx O1199 ((Fx.rf (wr := [23220200]) (h := h1198)).pIa t1203 ar_116101 hh1211 rfl) e1200 rfl).trans ((NT_fx O956 ((Fx.rf (wr := [23420200]) (h := h953)).pIa t978 ar_117101 hh1197 rfl) e963 rfl).trans p973))
                        refine g_callV (st := []) (gc_V C lk_LandSurveyModel_380 (k_X12_takeSign l D cy w z0 O1213 e1214 (iw (il 59) (by decide) (by decide)) ⟨p1218, by rw [e1215, p1219]; omega, by rw [e1216, e1215, p1219]; omega, by rw [e1217, e1215]; omega⟩) e1214 rfl rfl rfl ⟨by decide, by decide⟩ (Nat.le_of_ble_eq_true rfl) dX12_readNext_187 ⟨(by decide), (by decide)⟩) (fun h1221 K1222 => ?_)
                        obtain ⟨O1224, F1225, p1226, p1227, p1228⟩ := K1222
                        obtain ⟨v1229, e1230⟩ : ∃ z, Iv h1221 a0 7 = z := ⟨_, rfl⟩
                        have e1231 : Tg h1221 a0 = 12 := (fxT F1225 e1214)
                        have f1232 := ok_I O1224 e1231 rI_12_7 e1230
                        obtain ⟨v1233, e1234⟩ : ∃ z, Iv h1221 a0 8 = z := ⟨_, rfl⟩
                        have f1235 := ok_I O1224 e1231 rI_12_8 e1234
                        have e1236 : Iv h1221 a0 28 = v7 := ((fxI F1225 e1214 rfl).trans e1217)
                        obtain ⟨p1237, p1238, p1239, p1240⟩ := p1226
                        have p1241 := ((NT_fx O1213 F1225 e1214 rfl).trans p1219)
                        rw [e1230, p1241] at p1238
                        rw [e1234, e1230, p1241] at p1239
                        rw [e1236, e1230] at p1240
                        have p1242 := p1227
                        unfold ST at p1242
                        rw [e1215, e1230, e1217, e1236, e1216, e1234] at p1242
                        rw [e1234, e1230, e1215] at p1228
                        have p1243 := (MInv_fx O1213 F1225 e1214 rfl (MInv_fx O1199 ((Fx.rf (wr := [23220200]) (h := h1198)).pIa t1203 ar_116101 hh1211 rfl) e1200 rfl (MInv_fx O956 ((Fx.rf (wr := [23420200]) (h := h953)).pIa t978 ar_117101 hh1197 rfl) e963 rfl (MInv_fx O946 F957 e947 rfl (MInv_fx O928 ((Fx.rf (wr := [2407]) (h := h925)).pI e941 hh944 rfl) e941 rfl (MInv_fx O774 F929 e918 rfl (MInv_fx O377 F775 e764 rfl (MInv_fx O348 F378 e367 rfl (MInv_fx O265 F349 e338 rfl (MInv_fx O236 F266 e255 rfl (MInv_fx O147 F237 e226 rfl (MInv_fx O60 F148 e137 rfl (MInv_fx O21 F61 e50 rfl (MInv_fx O F22 ta0 rfl P_MInv))))))))))))))
                        have p1244 := (DLf_mono O1213 F1225 e1214 rfl p1227.2.2 (DLf_fx O1199 ((Fx.rf (wr := [23220200]) (h := h1198)).pIa t1203 ar_116101 hh1211 rfl) e1200 rfl (DLf_fx O956 ((Fx.rf (wr := [23420200]) (h := h953)).pIa t978 ar_117101 hh1197 rfl) e963 rfl (DLf_mono O946 F957 e947 rfl p960.2.2 (DLf_fx O928 ((Fx.rf (wr := [2407]) (h := h925)).pI e941 hh944 rfl) e941 rfl (DLf_fx O774 F929 e918 rfl (DLf_fx O377 F775 e764 rfl (DLf_fx O348 F378 e367 rfl (DLf_fx O265 F349 e338 rfl (DLf_fx O236 F266 e255 rfl (DLf_fx O147 F237 e226 rfl (DLf_fx O60 F148 e137 rfl (DLf_fx O21 F61 e50 rfl (DLf_fx O F22 ta0 rfl P_DLf))))))))))))))
                        exact g_vret C hr ⟨O1224, (((((((((((((((Fx.rf (wr := wr_k_X12_readNext)).call F22 rfl).call F61 rfl).call F148 rfl).call F237 rfl).call F266 rfl).call F349 rfl).call F378 rfl).call F775 rfl).call F929 rfl).pI e941 hh944 rfl).call F957 rfl).pIa t978 ar_117101 hh1197 rfl).pIa t1203 ar_116101 hh1211 rfl).call F1225 rfl), ⟨p1237, by rw [e1230, p1241]; omega, by rw [e1234, e1230, p1241]; omega, by rw [e1236, e1230]; omega⟩, (by unfold ST; rw [e2, e1230, e8, e1236, e5, e1234]; omega), p1243, p1244, (by rw [e1234, e2, e1230]; omega)⟩ (by decide) (by decide) dX12_readNext_190
                      · have f1245 : (0 : Int) ≤ v1205 ∧ v1205 ≤ (0 : Int) := ii f1207 (r_eq (il 0) q1209) (by decide) (by decide)
                        refine g_iload_n C rfl 1 rfl dX12_readNext_150 ?_
                        refine g_if_ne C (iw f1196 (by decide) (by decide)) 158 (by decide) dX12_readNext_151 (fun q1246 => ?_) (fun q1247 => ?_)
                        · refine g_iconst C dX12_readNext_158 ?_
                          refine g_zast C t1203 rfl l1204 (ix f975 (by decide) (by decide)) (iw (il 0) (by decide) (by decide)) dX12_readNext_159 (fun h1249 hh1248 => ?_)
                          have O1250 := O1199.pIa t1203 ar_116101 hh1248 rI_116101_0 (iw (il 0) (by decide) (by decide)) nofun
                          refine g_goto C 184 (by decide) dX12_readNext_160 ?_
                          refine g_aload_n C rfl 2 rfl dX12_readNext_184 ?_
                          refine g_bipush C (by decide) dX12_readNext_185 ?_
                          have e1251 : Tg h1249 a0 = 12 := ((pIT hh1248).trans e1200)
                          have e1252 : Iv h1249 a0 7 = v961 := ((pI_n hh1248 (ne_tag e1200 t1203 (by decide))).trans ((pI_n hh1197 (ne_tag e963 t978 (by decide))).trans e962))
                          have e1253 : Iv h1249 a0 8 = v965 := ((pI_n hh1248 (ne_tag e1200 t1203 (by decide))).trans ((pI_n hh1197 (ne_tag e963 t978 (by decide))).trans e966))
                          have e1254 : Iv h1249 a0 28 = v7 := ((pI_n hh1248 (ne_tag e1200 t1203 (by decide))).trans ((pI_n hh1197 (ne_tag e963 t978 (by decide))).trans e968))
                          have p1255 := (TK_fx O1199 ((Fx.rf (wr := [23220200]) (h := h1198)).pIa t1203 ar_116101 hh1248 rfl) e1200 rfl (TK_fx O956 ((Fx.rf (wr := [23420200]) (h := h953)).pIa t978 ar_117101 hh1197 rfl) e963 rfl p969))
                          have p1256 := ((NT_fx O1199 ((Fx.rf (wr := [23220200]) (h := h1198)).pIa t1203 ar_116101 hh1248 rfl) e1200 rfl).trans ((NT_fx O956 ((Fx.rf (wr := [23420200]) (h := h953)).pIa t978 ar_117101 hh1197 rfl) e963 rfl).trans p973))
                          refine g_callV (st := []) (gc_V C lk_LandSurveyModel_380 (k_X12_takeSign l D cy w z0 O1250 e1251 (iw (il 59) (by decide) (by decide)) ⟨p1255, by rw [e1252, p1256]; omega, by rw [e1253, e1252, p1256]; omega, by rw [e1254, e1252]; omega⟩) e1251 rfl rfl rfl ⟨by decide, by decide⟩ (Nat.le_of_ble_eq_true rfl) dX12_readNext_187 ⟨(by decide), (by decide)⟩) (fun h1258 K1259 => ?_)
                          obtain ⟨O1261, F1262, p1263, p1264, p1265⟩ := K1259
                          obtain ⟨v1266, e1267⟩ : ∃ z, Iv h1258 a0 7 = z := ⟨_, rfl⟩
                          have e1268 : Tg h1258 a0 = 12 := (fxT F1262 e1251)
                          have f1269 := ok_I O1261 e1268 rI_12_7 e1267
                          obtain ⟨v1270, e1271⟩ : ∃ z, Iv h1258 a0 8 = z := ⟨_, rfl⟩
                          have f1272 := ok_I O1261 e1268 rI_12_8 e1271
                          have e1273 : Iv h1258 a0 28 = v7 := ((fxI F1262 e1251 rfl).trans e1254)
                          obtain ⟨p1274, p1275, p1276, p1277⟩ := p1263
                          have p1278 := ((NT_fx O1250 F1262 e1251 rfl).trans p1256)
                          rw [e1267, p1278] at p1275
                          rw [e1271, e1267, p1278] at p1276
                          rw [e1273, e1267] at p1277
                          have p1279 := p1264
                          unfold ST at p1279
                          rw [e1252, e1267, e1254, e1273, e1253, e1271] at p1279
                          rw [e1271, e1267, e1252] at p1265
                          have p1280 := (MInv_fx O1250 F1262 e1251 rfl (MInv_fx O1199 ((Fx.rf (wr := [23220200]) (h := h1198)).pIa t1203 ar_116101 hh1248 rfl) e1200 rfl (MInv_fx O956 ((Fx.rf (wr := [23420200]) (h := h953)).pIa t978 ar_117101 hh1197 rfl) e963 rfl (MInv_fx O946 F957 e947 rfl (MInv_fx O928 ((Fx.rf (wr := [2407]) (h := h925)).pI e941 hh944 rfl) e941 rfl (MInv_fx O774 F929 e918 rfl (MInv_fx O377 F775 e764 rfl (MInv_fx O348 F378 e367 rfl (MInv_fx O265 F349 e338 rfl (MInv_fx O236 F266 e255 rfl (MInv_fx O147 F237 e226 rfl (MInv_fx O60 F148 e137 rfl (MInv_fx O21 F61 e50 rfl (MInv_fx O F22 ta0 rfl P_MInv))))))))))))))
                          have p1281 := (DLf_mono O1250 F1262 e1251 rfl p1264.2.2 (DLf_fx O1199 ((Fx.rf (wr := [23220200]) (h := h1198)).pIa t1203 ar_116101 hh1248 rfl) e1200 rfl (DLf_fx O956 ((Fx.rf (wr := [23420200]) (h := h953)).pIa t978 ar_117101 hh1197 rfl) e963 rfl (DLf_mono O946 F957 e947 rfl p960.2.2 (DLf_fx O928 ((Fx.rf (wr := [2407]) (h := h925)).pI e941 hh944 rfl) e941 rfl (DLf_fx O774 F929 e918 rfl (DLf_fx O377 F775 e764 rfl (DLf_fx O348 F378 e367 rfl (DLf_fx O265 F349 e338 rfl (DLf_fx O236 F266 e255 rfl (DLf_fx O147 F237 e226 rfl (DLf_fx O60 F148 e137 rfl (DLf_fx O21 F61 e50 rfl (DLf_fx O F22 ta0 rfl P_DLf))))))))))))))
                          exact g_vret C hr ⟨O1261, (((((((((((((((Fx.rf (wr := wr_k_X12_readNext)).call F22 rfl).call F61 rfl).call F148 rfl).call F237 rfl).call F266 rfl).call F349 rfl).call F378 rfl).call F775 rfl).call F929 rfl).pI e941 hh944 rfl).call F957 rfl).pIa t978 ar_117101 hh1197 rfl).pIa t1203 ar_116101 hh1248 rfl).call F1262 rfl), ⟨p1274, by rw [e1267, p1278]; omega, by rw [e1271, e1267, p1278]; omega, by rw [e1273, e1267]; omega⟩, (by unfold ST; rw [e2, e1267, e8, e1273, e5, e1271]; omega), p1280, p1281, (by rw [e1271, e2, e1267]; omega)⟩ (by decide) (by decide) dX12_readNext_190
                        · exact (no_eq f1196 (il 0) q1247 (by decide)).elim
            · have f1282 : (1 : Int) ≤ r344 ∧ r344 ≤ (1 : Int) := r_nl f350 q365
              refine g_aload_n C rfl 0 rfl dX12_readNext_62 ?_
              have e1283 : Tg h345 a0 = 12 := (fxT F349 e338)
              have e1284 : Iv h345 a0 7 = v1 := ((fxI F349 e338 rfl).trans e339)
              have e1285 : Iv h345 a0 8 = v4 := ((fxI F349 e338 rfl).trans e340)
              have e1286 : Iv h345 a0 28 = v7 := ((fxI F349 e338 rfl).trans e341)
              have p1287 := (TK_fx O265 F349 e338 rfl p342)
              have p1288 := ((NT_fx O265 F349 e338 rfl).trans p343)
              refine g_callV (st := []) (gc_V C lk_LandSurveyModel_371 (k_X12_readBound l D cy w z0 O348 e1283 ⟨p1287, by rw [e1284, p1288]; omega, by rw [e1285, e1284, p1288]; omega, by rw [e1286, e1284]; omega⟩ (by rw [e1285, e1284, p1288]; omega)) e1283 rfl rfl rfl ⟨by decide, by decide⟩ (Nat.le_of_ble_eq_true rfl) dX12_readNext_63 ⟨(by decide), (by decide)⟩) (fun h1290 K1291 => ?_)
              obtain ⟨O1293, F1294, p1295, p1296⟩ := K1291
              obtain ⟨v1297, e1298⟩ : ∃ z, Iv h1290 a0 7 = z := ⟨_, rfl⟩
              have e1299 : Tg h1290 a0 = 12 := (fxT F1294 e1283)
              have f1300 := ok_I O1293 e1299 rI_12_7 e1298
              obtain ⟨v1301, e1302⟩ : ∃ z, Iv h1290 a0 8 = z := ⟨_, rfl⟩
              have f1303 := ok_I O1293 e1299 rI_12_8 e1302
              have e1304 : Iv h1290 a0 28 = v7 := ((fxI F1294 e1283 rfl).trans e1286)
              obtain ⟨p1305, p1306, p1307, p1308⟩ := p1295
              have p1309 := ((NT_fx O348 F1294 e1283 rfl).trans p1288)
              rw [e1298, p1309] at p1306
              rw [e1302, e1298, p1309] at p1307
              rw [e1304, e1298] at p1308
              have p1310 := p1296
              unfold ST at p1310
              rw [e1284, e1298, e1286, e1304, e1285, e1302] at p1310
              refine g_goto C 184 (by decide) dX12_readNext_66 ?_
              refine g_aload_n C rfl 0 rfl dX12_readNext_184 ?_
              refine g_bipush C (by decide) dX12_readNext_185 ?_
              refine g_callV (st := []) (gc_V C lk_LandSurveyModel_380 (k_X12_takeSign l D cy w z0 O1293 e1299 (iw (il 59) (by decide) (by decide)) ⟨p1305, by rw [e1298, p1309]; omega, by rw [e1302, e1298, p1309]; omega, by rw [e1304, e1298]; omega⟩) e1299 rfl rfl rfl ⟨by decide, by decide⟩ (Nat.le_of_ble_eq_true rfl) dX12_readNext_187 ⟨(by decide), (by decide)⟩) (fun h1312 K1313 => ?_)
              obtain ⟨O1315, F1316, p1317, p1318, p1319⟩ := K1313
              obtain ⟨v1320, e1321⟩ : ∃ z, Iv h1312 a0 7 = z := ⟨_, rfl⟩
              have e1322 : Tg h1312 a0 = 12 := (fxT F1316 e1299)
              have f1323 := ok_I O1315 e1322 rI_12_7 e1321
              obtain ⟨v1324, e1325⟩ : ∃ z, Iv h1312 a0 8 = z := ⟨_, rfl⟩
              have f1326 := ok_I O1315 e1322 rI_12_8 e1325
              have e1327 : Iv h1312 a0 28 = v7 := ((fxI F1316 e1299 rfl).trans e1304)
              obtain ⟨p1328, p1329, p1330, p1331⟩ := p1317
              have p1332 := ((NT_fx O1293 F1316 e1299 rfl).trans p1309)
              rw [e1321, p1332] at p1329
              rw [e1325, e1321, p1332] at p1330
              rw [e1327, e1321] at p1331
              have p1333 := p1318
              unfold ST at p1333
              rw [e1298, e1321, e1304, e1327, e1302, e1325] at p1333
              rw [e1325, e1321, e1298] at p1319
              have p1334 := (MInv_fx O1293 F1316 e1299 rfl (MInv_fx O348 F1294 e1283 rfl (MInv_fx O265 F349 e338 rfl (MInv_fx O236 F266 e255 rfl (MInv_fx O147 F237 e226 rfl (MInv_fx O60 F148 e137 rfl (MInv_fx O21 F61 e50 rfl (MInv_fx O F22 ta0 rfl P_MInv))))))))
              have p1335 := (DLf_mono O1293 F1316 e1299 rfl p1318.2.2 (DLf_mono O348 F1294 e1283 rfl p1296.2.2 (DLf_fx O265 F349 e338 rfl (DLf_fx O236 F266 e255 rfl (DLf_fx O147 F237 e226 rfl (DLf_fx O60 F148 e137 rfl (DLf_fx O21 F61 e50 rfl (DLf_fx O F22 ta0 rfl P_DLf))))))))
              exact g_vret C hr ⟨O1315, (((((((((Fx.rf (wr := wr_k_X12_readNext)).call F22 rfl).call F61 rfl).call F148 rfl).call F237 rfl).call F266 rfl).call F349 rfl).call F1294 rfl).call F1316 rfl), ⟨p1328, by rw [e1321, p1332]; omega, by rw [e1325, e1321, p1332]; omega, by rw [e1327, e1321]; omega⟩, (by unfold ST; rw [e2, e1321, e8, e1327, e5, e1325]; omega), p1334, p1335, (by rw [e1325, e2, e1321]; omega)⟩ (by decide) (by decide) dX12_readNext_190
        · have f1336 : (1 : Int) ≤ r232 ∧ r232 ≤ (1 : Int) := r_nl f238 q253
          refine g_aload_n C rfl 0 rfl dX12_readNext_39 ?_
          have e1337 : Tg h233 a0 = 12 := (fxT F237 e226)
          have e1338 : Iv h233 a0 7 = v1 := ((fxI F237 e226 rfl).trans e227)
          have e1339 : Iv h233 a0 8 = v4 := ((fxI F237 e226 rfl).trans e228)
          have e1340 : Iv h233 a0 28 = v7 := ((fxI F237 e226 rfl).trans e229)
          have p1341 := (TK_fx O147 F237 e226 rfl p230)
          have p1342 := ((NT_fx O147 F237 e226 rfl).trans p231)
          have p1343 := (MInv_fx O147 F237 e226 rfl (MInv_fx O60 F148 e137 rfl (MInv_fx O21 F61 e50 rfl (MInv_fx O F22 ta0 rfl P_MInv))))
          have p1344 := (DLf_fx O147 F237 e226 rfl (DLf_fx O60 F148 e137 rfl (DLf_fx O21 F61 e50 rfl (DLf_fx O F22 ta0 rfl P_DLf))))
          refine g_callV (st := []) (gc_V C lk_LandSurveyModel_368 (k_X12_readLine l D cy w z0 O236 e1337 ⟨p1341, by rw [e1338, p1342]; omega, by rw [e1339, e1338, p1342]; omega, by rw [e1340, e1338]; omega⟩ (by rw [e1339, e1338, p1342]; omega) p1343 p1344) e1337 rfl rfl rfl ⟨by decide, by decide⟩ (Nat.le_of_ble_eq_true rfl) dX12_readNext_40 ⟨(by decide), (by decide)⟩) (fun h1346 K1347 => ?_)
          obtain ⟨O1349, F1350, p1351, p1352, p1353, p1354⟩ := K1347
          obtain ⟨v1355, e1356⟩ : ∃ z, Iv h1346 a0 7 = z := ⟨_, rfl⟩
          have e1357 : Tg h1346 a0 = 12 := (fxT F1350 e1337)
          have f1358 := ok_I O1349 e1357 rI_12_7 e1356
          obtain ⟨v1359, e1360⟩ : ∃ z, Iv h1346 a0 8 = z := ⟨_, rfl⟩
          have f1361 := ok_I O1349 e1357 rI_12_8 e1360
          obtain ⟨v1362, e1363⟩ : ∃ z, Iv h1346 a0 28 = z := ⟨_, rfl⟩
          have f1364 := ok_I O1349 e1357 rI_12_28 e1363
          obtain ⟨p1365, p1366, p1367, p1368⟩ := p1351
          have p1369 := ((NT_fx O236 F1350 e1337 rfl).trans p1342)
          rw [e1356, p1369] at p1366
          rw [e1360, e1356, p1369] at p1367
          rw [e1363, e1356] at p1368
          have p1370 := p1352
          unfold ST at p1370
          rw [e1338, e1356, e1340, e1363, e1339, e1360] at p1370
          refine g_goto C 184 (by decide) dX12_readNext_43 ?_
          refine g_aload_n C rfl 0 rfl dX12_readNext_184 ?_
          refine g_bipush C (by decide) dX12_readNext_185 ?_
          refine g_callV (st := []) (gc_V C lk_LandSurveyModel_380 (k_X12_takeSign l D cy w z0 O1349 e1357 (iw (il 59) (by decide) (by decide)) ⟨p1365, by rw [e1356, p1369]; omega, by rw [e1360, e1356, p1369]; omega, by rw [e1363, e1356]; omega⟩) e1357 rfl rfl rfl ⟨by decide, by decide⟩ (Nat.le_of_ble_eq_true rfl) dX12_readNext_187 ⟨(by decide), (by decide)⟩) (fun h1372 K1373 => ?_)
          obtain ⟨O1375, F1376, p1377, p1378, p1379⟩ := K1373
          obtain ⟨v1380, e1381⟩ : ∃ z, Iv h1372 a0 7 = z := ⟨_, rfl⟩
          have e1382 : Tg h1372 a0 = 12 := (fxT F1376 e1357)
          have f1383 := ok_I O1375 e1382 rI_12_7 e1381
          obtain ⟨v1384, e1385⟩ : ∃ z, Iv h1372 a0 8 = z := ⟨_, rfl⟩
          have f1386 := ok_I O1375 e1382 rI_12_8 e1385
          have e1387 : Iv h1372 a0 28 = v1362 := ((fxI F1376 e1357 rfl).trans e1363)
          obtain ⟨p1388, p1389, p1390, p1391⟩ := p1377
          have p1392 := ((NT_fx O1349 F1376 e1357 rfl).trans p1369)
          rw [e1381, p1392] at p1389
          rw [e1385, e1381, p1392] at p1390
          rw [e1387, e1381] at p1391
          have p1393 := p1378
          unfold ST at p1393
          rw [e1356, e1381, e1363, e1387, e1360, e1385] at p1393
          rw [e1385, e1381, e1356] at p1379
          have p1394 := (MInv_fx O1349 F1376 e1357 rfl p1353)
          have p1395 := (DLf_mono O1349 F1376 e1357 rfl p1378.2.2 p1354)
          exact g_vret C hr ⟨O1375, (((((((Fx.rf (wr := wr_k_X12_readNext)).call F22 rfl).call F61 rfl).call F148 rfl).call F237 rfl).call F1350 rfl).call F1376 rfl), ⟨p1388, by rw [e1381, p1392]; omega, by rw [e1385, e1381, p1392]; omega, by rw [e1387, e1381]; omega⟩, (by unfold ST; rw [e2, e1381, e8, e1387, e5, e1385]; omega), p1394, p1395, (by rw [e1385, e2, e1381]; omega)⟩ (by decide) (by decide) dX12_readNext_190
  · have f1396 : (1 : Int) ≤ r17 ∧ r17 ≤ (1 : Int) := r_nl f23 q48
    refine g_aload_n C rfl 0 rfl dX12_readNext_8 ?_
    have e1397 : Tg h18 a0 = 12 := (fxT F22 ta0)
    have e1398 : Iv h18 a0 7 = v1 := ((fxI F22 ta0 rfl).trans e2)
    have e1399 : Iv h18 a0 8 = v4 := ((fxI F22 ta0 rfl).trans e5)
    have e1400 : Iv h18 a0 28 = v7 := ((fxI F22 ta0 rfl).trans e8)
    have p1401 := (TK_fx O F22 ta0 rfl p10)
    have p1402 := ((NT_fx O F22 ta0 rfl).trans e15)
    refine g_callV (st := []) (gc_V C lk_LandSurveyModel_365 (k_X12_readRock l D cy w z0 O21 e1397 ⟨p1401, by rw [e1398, p1402]; omega, by rw [e1399, e1398, p1402]; omega, by rw [e1400, e1398]; omega⟩ (by rw [e1399, e1398, p1402]; omega)) e1397 rfl rfl rfl ⟨by decide, by decide⟩ (Nat.le_of_ble_eq_true rfl) dX12_readNext_9 ⟨(by decide), (by decide)⟩) (fun h1404 K1405 => ?_)
    obtain ⟨O1407, F1408, p1409, p1410⟩ := K1405
    obtain ⟨v1411, e1412⟩ : ∃ z, Iv h1404 a0 7 = z := ⟨_, rfl⟩
    have e1413 : Tg h1404 a0 = 12 := (fxT F1408 e1397)
    have f1414 := ok_I O1407 e1413 rI_12_7 e1412
    obtain ⟨v1415, e1416⟩ : ∃ z, Iv h1404 a0 8 = z := ⟨_, rfl⟩
    have f1417 := ok_I O1407 e1413 rI_12_8 e1416
    have e1418 : Iv h1404 a0 28 = v7 := ((fxI F1408 e1397 rfl).trans e1400)
    obtain ⟨p1419, p1420, p1421, p1422⟩ := p1409
    have p1423 := ((NT_fx O21 F1408 e1397 rfl).trans p1402)
    rw [e1412, p1423] at p1420
    rw [e1416, e1412, p1423] at p1421
    rw [e1418, e1412] at p1422
    have p1424 := p1410
    unfold ST at p1424
    rw [e1398, e1412, e1400, e1418, e1399, e1416] at p1424
    refine g_goto C 184 (by decide) dX12_readNext_12 ?_
    refine g_aload_n C rfl 0 rfl dX12_readNext_184 ?_
    refine g_bipush C (by decide) dX12_readNext_185 ?_
    refine g_callV (st := []) (gc_V C lk_LandSurveyModel_380 (k_X12_takeSign l D cy w z0 O1407 e1413 (iw (il 59) (by decide) (by decide)) ⟨p1419, by rw [e1412, p1423]; omega, by rw [e1416, e1412, p1423]; omega, by rw [e1418, e1412]; omega⟩) e1413 rfl rfl rfl ⟨by decide, by decide⟩ (Nat.le_of_ble_eq_true rfl) dX12_readNext_187 ⟨(by decide), (by decide)⟩) (fun h1426 K1427 => ?_)
    obtain ⟨O1429, F1430, p1431, p1432, p1433⟩ := K1427
    obtain ⟨v1434, e1435⟩ : ∃ z, Iv h1426 a0 7 = z := ⟨_, rfl⟩
    have e1436 : Tg h1426 a0 = 12 := (fxT F1430 e1413)
    have f1437 := ok_I O1429 e1436 rI_12_7 e1435
    obtain ⟨v1438, e1439⟩ : ∃ z, Iv h1426 a0 8 = z := ⟨_, rfl⟩
    have f1440 := ok_I O1429 e1436 rI_12_8 e1439
    have e1441 : Iv h1426 a0 28 = v7 := ((fxI F1430 e1413 rfl).trans e1418)
    obtain ⟨p1442, p1443, p1444, p1445⟩ := p1431
    have p1446 := ((NT_fx O1407 F1430 e1413 rfl).trans p1423)
    rw [e1435, p1446] at p1443
    rw [e1439, e1435, p1446] at p1444
    rw [e1441, e1435] at p1445
    have p1447 := p1432
    unfold ST at p1447
    rw [e1412, e1435, e1418, e1441, e1416, e1439] at p1447
    rw [e1439, e1435, e1412] at p1433
    have p1448 := (MInv_fx O1407 F1430 e1413 rfl (MInv_fx O21 F1408 e1397 rfl (MInv_fx O F22 ta0 rfl P_MInv)))
    have p1449 := (DLf_mono O1407 F1430 e1413 rfl p1432.2.2 (DLf_mono O21 F1408 e1397 rfl p1410.2.2 (DLf_fx O F22 ta0 rfl P_DLf)))
    exact g_vret C hr ⟨O1429, ((((Fx.rf (wr := wr_k_X12_readNext)).call F22 rfl).call F1408 rfl).call F1430 rfl), ⟨p1442, by rw [e1435, p1446]; omega, by rw [e1439, e1435, p1446]; omega, by rw [e1441, e1435]; omega⟩, (by unfold ST; rw [e2, e1435, e8, e1441, e5, e1439]; omega), p1448, p1449, (by rw [e1439, e2, e1435]; omega)⟩ (by decide) (by decide) dX12_readNext_190
