abbrev cX11_cellAt : ByteArray := prog_1_method_38_code
def yX11_cellAt : MethodName := ⟨RX11, "cellAt", "(II)I"⟩
theorem okX11_cellAt : yok yX11_cellAt 2 := by decide +kernel
abbrev cX11_isSight : ByteArray := prog_1_method_40_code
def yX11_isSight : MethodName := ⟨RX11, "isSight", "(I)Z"⟩
theorem okX11_isSight : yok yX11_isSight 1 := by decide +kernel
abbrev cX12_within : ByteArray := prog_14_method_36_code
def yX12_within : MethodName := ⟨RX12, "within", "(III)Z"⟩
theorem okX12_within : yok yX12_within 3 := by decide +kernel
abbrev cX12_isCell : ByteArray := prog_14_method_37_code
def yX12_isCell : MethodName := ⟨RX12, "isCell", "(II)Z"⟩
theorem okX12_isCell : yok yX12_isCell 2 := by decide +kernel
abbrev cX11_days : ByteArray := prog_1_method_2_code
def yX11_days : MethodName := ⟨RX11, "days", "(I)I"⟩
theorem okX11_days : yok yX11_days 1 := by decide +kernel
theorem kw_472 : Cond.fieldLink "LandSurvey" 102 "LandSurvey" "sightCount" "I" ∈ uu := uu_in (i := 472) (by decide +kernel) (by decide +kernel)
theorem kw_152 : Cond.initialized "LandSurveyModel" ∈ uu := uu_in (i := 152) (by decide +kernel) (by decide +kernel)
theorem kw_1894 : Cond.code yX12_within prog_14_method_36_code 3 (some .boolean) ∈ uu := uu_in (i := 1894) (by decide +kernel) (by decide +kernel)
theorem kw_1892 : Cond.methodLink "LandSurveyModel" 415 yX12_within ∈ uu := uu_in (i := 1892) (by decide +kernel) (by decide +kernel)
theorem kw_1893 : Cond.static yX12_within ∈ uu := uu_in (i := 1893) (by decide +kernel) (by decide +kernel)
theorem kw_468 : Cond.fieldLink "LandSurvey" 78 "LandSurvey" "now" "I" ∈ uu := uu_in (i := 468) (by decide +kernel) (by decide +kernel)
theorem dX11_cellAt_0 : decode cX11_cellAt 0 = .ok (.iload_n 0, 1) := by decide +kernel
theorem dX11_cellAt_1 : decode cX11_cellAt 1 = .ok (.ifCond .lt 19, 3) := by decide +kernel
theorem dX11_cellAt_20 : decode cX11_cellAt 20 = .ok (.iconst (-1), 1) := by decide +kernel
theorem dX11_cellAt_21 : decode cX11_cellAt 21 = .ok (.ireturn, 1) := by decide +kernel
theorem dX11_cellAt_4 : decode cX11_cellAt 4 = .ok (.iload_n 0, 1) := by decide +kernel
theorem dX11_cellAt_5 : decode cX11_cellAt 5 = .ok (.bipush 12, 2) := by decide +kernel
theorem dX11_cellAt_7 : decode cX11_cellAt 7 = .ok (.if_icmp .ge 13, 3) := by decide +kernel
theorem dX11_cellAt_10 : decode cX11_cellAt 10 = .ok (.iload_n 1, 1) := by decide +kernel
theorem dX11_cellAt_11 : decode cX11_cellAt 11 = .ok (.ifCond .lt 9, 3) := by decide +kernel
theorem dX11_cellAt_14 : decode cX11_cellAt 14 = .ok (.iload_n 1, 1) := by decide +kernel
theorem dX11_cellAt_15 : decode cX11_cellAt 15 = .ok (.bipush 8, 2) := by decide +kernel
theorem dX11_cellAt_17 : decode cX11_cellAt 17 = .ok (.if_icmp .lt 5, 3) := by decide +kernel
theorem dX11_cellAt_22 : decode cX11_cellAt 22 = .ok (.bipush 12, 2) := by decide +kernel
theorem dX11_cellAt_24 : decode cX11_cellAt 24 = .ok (.iload_n 1, 1) := by decide +kernel
theorem dX11_cellAt_25 : decode cX11_cellAt 25 = .ok (.imul, 1) := by decide +kernel
theorem dX11_cellAt_26 : decode cX11_cellAt 26 = .ok (.iload_n 0, 1) := by decide +kernel
theorem dX11_cellAt_27 : decode cX11_cellAt 27 = .ok (.iadd, 1) := by decide +kernel
theorem dX11_cellAt_28 : decode cX11_cellAt 28 = .ok (.ireturn, 1) := by decide +kernel
theorem dX11_isSight_0 : decode cX11_isSight 0 = .ok (.iload_n 1, 1) := by decide +kernel
theorem dX11_isSight_1 : decode cX11_isSight 1 = .ok (.ifCond .lt 15, 3) := by decide +kernel
theorem dX11_isSight_16 : decode cX11_isSight 16 = .ok (.iconst 0, 1) := by decide +kernel
theorem dX11_isSight_17 : decode cX11_isSight 17 = .ok (.ireturn, 1) := by decide +kernel
theorem dX11_isSight_4 : decode cX11_isSight 4 = .ok (.iload_n 1, 1) := by decide +kernel
theorem dX11_isSight_5 : decode cX11_isSight 5 = .ok (.aload_n 0, 1) := by decide +kernel
theorem dX11_isSight_6 : decode cX11_isSight 6 = .ok (.getfield 102, 3) := by decide +kernel
theorem dX11_isSight_9 : decode cX11_isSight 9 = .ok (.if_icmp .ge 7, 3) := by decide +kernel
theorem dX12_within_0 : decode cX12_within 0 = .ok (.iload_n 0, 1) := by decide +kernel
theorem dX12_within_1 : decode cX12_within 1 = .ok (.iload_n 1, 1) := by decide +kernel
theorem dX12_within_2 : decode cX12_within 2 = .ok (.if_icmp .lt 12, 3) := by decide +kernel
theorem dX12_within_14 : decode cX12_within 14 = .ok (.iconst 0, 1) := by decide +kernel
theorem dX12_within_15 : decode cX12_within 15 = .ok (.ireturn, 1) := by decide +kernel
theorem dX12_within_5 : decode cX12_within 5 = .ok (.iload_n 0, 1) := by decide +kernel
theorem dX12_within_6 : decode cX12_within 6 = .ok (.iload_n 2, 1) := by decide +kernel
theorem dX12_within_7 : decode cX12_within 7 = .ok (.if_icmp .gt 7, 3) := by decide +kernel
theorem dX12_within_10 : decode cX12_within 10 = .ok (.iconst 1, 1) := by decide +kernel
theorem dX12_within_11 : decode cX12_within 11 = .ok (.goto 4, 3) := by decide +kernel
theorem dX12_isCell_0 : decode cX12_isCell 0 = .ok (.iload_n 0, 1) := by decide +kernel
theorem dX12_isCell_1 : decode cX12_isCell 1 = .ok (.iconst 0, 1) := by decide +kernel
theorem dX12_isCell_2 : decode cX12_isCell 2 = .ok (.bipush 11, 2) := by decide +kernel
theorem dX12_isCell_4 : decode cX12_isCell 4 = .ok (.invokestatic 415, 3) := by decide +kernel
theorem dX12_isCell_7 : decode cX12_isCell 7 = .ok (.ifCond .eq 17, 3) := by decide +kernel
theorem dX12_isCell_10 : decode cX12_isCell 10 = .ok (.iload_n 1, 1) := by decide +kernel
theorem dX12_isCell_11 : decode cX12_isCell 11 = .ok (.iconst 0, 1) := by decide +kernel
theorem dX12_isCell_12 : decode cX12_isCell 12 = .ok (.bipush 7, 2) := by decide +kernel
theorem dX12_isCell_14 : decode cX12_isCell 14 = .ok (.invokestatic 415, 3) := by decide +kernel
theorem dX12_isCell_17 : decode cX12_isCell 17 = .ok (.ifCond .eq 7, 3) := by decide +kernel
theorem dX12_isCell_20 : decode cX12_isCell 20 = .ok (.iconst 1, 1) := by decide +kernel
theorem dX12_isCell_21 : decode cX12_isCell 21 = .ok (.goto 4, 3) := by decide +kernel
theorem dX12_isCell_25 : decode cX12_isCell 25 = .ok (.ireturn, 1) := by decide +kernel
theorem dX12_isCell_24 : decode cX12_isCell 24 = .ok (.iconst 0, 1) := by decide +kernel
theorem dX11_days_0 : decode cX11_days 0 = .ok (.iload_n 1, 1) := by decide +kernel
theorem dX11_days_1 : decode cX11_days 1 = .ok (.ifCond .lt 22, 3) := by decide +kernel
theorem dX11_days_23 : decode cX11_days 23 = .ok (.iconst (-1), 1) := by decide +kernel
theorem dX11_days_24 : decode cX11_days 24 = .ok (.ireturn, 1) := by decide +kernel
theorem dX11_days_4 : decode cX11_days 4 = .ok (.iload_n 1, 1) := by decide +kernel
theorem dX11_days_5 : decode cX11_days 5 = .ok (.sipush 1000, 3) := by decide +kernel
theorem dX11_days_8 : decode cX11_days 8 = .ok (.if_icmp .gt 15, 3) := by decide +kernel
theorem dX11_days_11 : decode cX11_days 11 = .ok (.aload_n 0, 1) := by decide +kernel
theorem dX11_days_12 : decode cX11_days 12 = .ok (.getfield 78, 3) := by decide +kernel
theorem dX11_days_15 : decode cX11_days 15 = .ok (.iload_n 1, 1) := by decide +kernel
theorem dX11_days_16 : decode cX11_days 16 = .ok (.iadd, 1) := by decide +kernel
theorem dX11_days_17 : decode cX11_days 17 = .ok (.sipush 9999, 3) := by decide +kernel
theorem dX11_days_20 : decode cX11_days 20 = .ok (.if_icmp .le 5, 3) := by decide +kernel
theorem dX11_days_25 : decode cX11_days 25 = .ok (.aload_n 0, 1) := by decide +kernel
theorem dX11_days_26 : decode cX11_days 26 = .ok (.dup, 1) := by decide +kernel
theorem dX11_days_27 : decode cX11_days 27 = .ok (.getfield 78, 3) := by decide +kernel
theorem dX11_days_30 : decode cX11_days 30 = .ok (.iload_n 1, 1) := by decide +kernel
theorem dX11_days_31 : decode cX11_days 31 = .ok (.iadd, 1) := by decide +kernel
theorem dX11_days_32 : decode cX11_days 32 = .ok (.putfield 78, 3) := by decide +kernel
theorem dX11_days_35 : decode cX11_days 35 = .ok (.aload_n 0, 1) := by decide +kernel
theorem dX11_days_36 : decode cX11_days 36 = .ok (.getfield 78, 3) := by decide +kernel
theorem dX11_days_39 : decode cX11_days 39 = .ok (.ireturn, 1) := by decide +kernel
set_option maxHeartbeats 4000000 in
set_option maxRecDepth 100000 in
theorem kX11_cellAt (l : Launch) (D : va_G) (cy : Nat → ClassId) (p0 : Int32) (p1 : Int32) (z0 : Int) (h0 : p0.toInt = z0) (z1 : Int) (h1 : p1.toInt = z1) : RI l D cy yX11_cellAt cX11_cellAt 2 (some .int) 0 0 [.int p0, .int p1] [] (fun v : Int32 => (v = (-1) ∧ ¬ (0 ≤ z0 ∧ z0 ≤ 11 ∧ 0 ≤ z1 ∧ z1 ≤ 7)) ∨ (∃ cx : Nat, ∃ cl : Nat, v = (nI (12 * cl + cx)) ∧ cx < 12 ∧ cl < 8 ∧ z0 = (cx : Int) ∧ z1 = (cl : Int))) := by
  refine metr_go (by decide) (Nat.le_of_ble_eq_true rfl) (fun p e s m below meth c ls S hr hlk hP hK hl => ?_)
  have hl : lv_has ls 2 [(0, .int p0), (1, .int p1)] := hl
  refine lv_iload_n S.1 S.2.1 dX11_cellAt_0 rfl (lv_at hl 0 rfl) ?_
  refine r_if_lt S z0 h0 dX11_cellAt_1 (tgt := 20) (by decide) (fun e_1_1 => ?_) (fun e_1_1 => ?_)
  · refine lv_iconst (v := (-1)) S.1 S.2.1 dX11_cellAt_20 (by decide) ?_
    exact ri_ret S hr hlk rfl (Or.inl ⟨rfl, (by omega)⟩) dX11_cellAt_21
  · refine lv_iload_n S.1 S.2.1 dX11_cellAt_4 rfl (lv_at hl 0 rfl) ?_
    refine lv_bipush (v := 12) S.1 S.2.1 dX11_cellAt_5 (by decide) ?_
    refine r_icmp_ge S z0 12 h0 rfl dX11_cellAt_7 (tgt := 20) (by decide) (fun e_7_2 => ?_) (fun e_7_2 => ?_)
    · refine lv_iconst (v := (-1)) S.1 S.2.1 dX11_cellAt_20 (by decide) ?_
      exact ri_ret S hr hlk rfl (Or.inl ⟨rfl, (by omega)⟩) dX11_cellAt_21
    · refine lv_iload_n S.1 S.2.1 dX11_cellAt_10 rfl (lv_at hl 1 rfl) ?_
      refine r_if_lt S z1 h1 dX11_cellAt_11 (tgt := 20) (by decide) (fun e_11_3 => ?_) (fun e_11_3 => ?_)
      · refine lv_iconst (v := (-1)) S.1 S.2.1 dX11_cellAt_20 (by decide) ?_
        exact ri_ret S hr hlk rfl (Or.inl ⟨rfl, (by omega)⟩) dX11_cellAt_21
      · refine lv_iload_n S.1 S.2.1 dX11_cellAt_14 rfl (lv_at hl 1 rfl) ?_
        refine lv_bipush (v := 8) S.1 S.2.1 dX11_cellAt_15 (by decide) ?_
        refine r_icmp_lt S z1 8 h1 rfl dX11_cellAt_17 (tgt := 22) (by decide) (fun e_17_4 => ?_) (fun e_17_4 => ?_)
        · obtain ⟨cx, hcx, qcx, zcx⟩ := i_nat 12 h0 (by omega) (by omega)
          have hl : lv_has ls 2 [(0, .int (nI cx)), (1, .int p1)] := by rw [← qcx]; exact hl
          obtain ⟨cl, hcl, qcl, zcl⟩ := i_nat 8 h1 (by omega) (by omega)
          have hl : lv_has ls 2 [(0, .int (nI cx)), (1, .int (nI cl))] := by rw [← qcl]; exact hl
          refine lv_bipush (v := 12) S.1 S.2.1 dX11_cellAt_22 (by decide) ?_
          refine lv_iload_n S.1 S.2.1 dX11_cellAt_24 rfl (lv_at hl 1 rfl) ?_
          refine r_imul S dX11_cellAt_25 (v := (nI (12 * cl))) (pk_mul (12) (cl)) ?_
          refine lv_iload_n S.1 S.2.1 dX11_cellAt_26 rfl (lv_at hl 0 rfl) ?_
          refine r_iadd S dX11_cellAt_27 (v := (nI ((12 * cl) + cx))) (nI_add ((12 * cl)) (cx)) ?_
          exact ri_ret S hr hlk rfl (Or.inr (⟨cx, cl, rfl, (by omega), (by omega), (by omega), (by omega)⟩)) dX11_cellAt_28
        · refine lv_iconst (v := (-1)) S.1 S.2.1 dX11_cellAt_20 (by decide) ?_
          exact ri_ret S hr hlk rfl (Or.inl ⟨rfl, (by omega)⟩) dX11_cellAt_21
set_option maxHeartbeats 4000000 in
set_option maxRecDepth 100000 in
theorem kX11_isSight (l : Launch) (D : va_G) (cy : Nat → ClassId) (x : Nat → Nat) (p0 : Int32) (z0 : Int) (h0 : p0.toInt = z0) : RI l D cy yX11_isSight cX11_isSight 2 (some .boolean) 0 0 [.ref (x 0), .int p0] [((x 0), .inr (10, [.int 0, .int (-1), .ref (x 1), .ref (x 9), .int 0, .ref (x 10), .ref (x 13), .ref (x 16), .ref (x 29), .int 0, .int 0, .ref (x 30), .int 0, .ref (x 31), .ref (x 42), .int 0, .int 0, .null, .ref (x 43)]))] (fun v : Int32 => v = 0) := by
  refine metr_go (by decide) (Nat.le_of_ble_eq_true rfl) (fun p e s m below meth c ls S hr hlk hP hK hl => ?_)
  have hl : lv_has ls 2 [(0, .ref (x 0)), (1, .int p0)] := hl
  refine lv_iload_n S.1 S.2.1 dX11_isSight_0 rfl (lv_at hl 1 rfl) ?_
  refine r_if_lt S z0 h0 dX11_isSight_1 (tgt := 16) (by decide) (fun e_1_1 => ?_) (fun e_1_1 => ?_)
  · refine lv_iconst (v := 0) S.1 S.2.1 dX11_isSight_16 (by decide) ?_
    exact ri_ret S hr hlk (by decide) (rfl) dX11_isSight_17
  · refine lv_iload_n S.1 S.2.1 dX11_isSight_4 rfl (lv_at hl 1 rfl) ?_
    refine lv_aload_n S.1 S.2.1 dX11_isSight_5 rfl (lv_at hl 0 rfl) ?_
    refine r_get S hK hP 0 10 rfl rfl inX11 4 (by decide) kw_472 (v := .int 0) rfl dX11_isSight_6 ?_
    refine r_icmp_ge S z0 0 h0 rfl dX11_isSight_9 (tgt := 16) (by decide) (fun _ => ?_) (fun c => absurd c (by omega))
    refine lv_iconst (v := 0) S.1 S.2.1 dX11_isSight_16 (by decide) ?_
    exact ri_ret S hr hlk (by decide) (rfl) dX11_isSight_17
set_option maxHeartbeats 4000000 in
set_option maxRecDepth 100000 in
theorem kX12_within (l : Launch) (D : va_G) (cy : Nat → ClassId) (p0 : Int32) (p1 : Int32) (p2 : Int32) (z0 : Int) (h0 : p0.toInt = z0) (z1 : Int) (h1 : p1.toInt = z1) (z2 : Int) (h2 : p2.toInt = z2) : RI l D cy yX12_within cX12_within 3 (some .boolean) 0 0 [.int p0, .int p1, .int p2] [] (fun v : Int32 => (v = 1 ∧ (z1 ≤ z0 ∧ z0 ≤ z2)) ∨ (v = 0 ∧ ¬ (z1 ≤ z0 ∧ z0 ≤ z2))) := by
  refine metr_go (by decide) (Nat.le_of_ble_eq_true rfl) (fun p e s m below meth c ls S hr hlk hP hK hl => ?_)
  have hl : lv_has ls 3 [(0, .int p0), (1, .int p1), (2, .int p2)] := hl
  refine lv_iload_n S.1 S.2.1 dX12_within_0 rfl (lv_at hl 0 rfl) ?_
  refine lv_iload_n S.1 S.2.1 dX12_within_1 rfl (lv_at hl 1 rfl) ?_
  refine r_icmp_lt S z0 z1 h0 h1 dX12_within_2 (tgt := 14) (by decide) (fun e_2_1 => ?_) (fun e_2_1 => ?_)
  · refine lv_iconst (v := 0) S.1 S.2.1 dX12_within_14 (by decide) ?_
    exact ri_ret S hr hlk (by decide) (Or.inr (⟨rfl, (by omega)⟩)) dX12_within_15
  · refine lv_iload_n S.1 S.2.1 dX12_within_5 rfl (lv_at hl 0 rfl) ?_
    refine lv_iload_n S.1 S.2.1 dX12_within_6 rfl (lv_at hl 2 rfl) ?_
    refine r_icmp_gt S z0 z2 h0 h2 dX12_within_7 (tgt := 14) (by decide) (fun e_7_2 => ?_) (fun e_7_2 => ?_)
    · refine lv_iconst (v := 0) S.1 S.2.1 dX12_within_14 (by decide) ?_
      exact ri_ret S hr hlk (by decide) (Or.inr (⟨rfl, (by omega)⟩)) dX12_within_15
    · refine lv_iconst (v := 1) S.1 S.2.1 dX12_within_10 (by decide) ?_
      refine lv_goto (tgt := 15) S.1 S.2.1 dX12_within_11 (by decide) ?_
      exact ri_ret S hr hlk (by decide) (Or.inl ⟨rfl, (by omega)⟩) dX12_within_15
set_option maxHeartbeats 4000000 in
set_option maxRecDepth 100000 in
theorem kX12_isCell (l : Launch) (D : va_G) (cy : Nat → ClassId) (p0 : Int32) (p1 : Int32) (z0 : Int) (h0 : p0.toInt = z0) (z1 : Int) (h1 : p1.toInt = z1) : RI l D cy yX12_isCell cX12_isCell 2 (some .boolean) 1 22 [.int p0, .int p1] [] (fun v : Int32 => (v = 1 ∧ (0 ≤ z0 ∧ z0 ≤ 11 ∧ 0 ≤ z1 ∧ z1 ≤ 7)) ∨ (v = 0 ∧ ¬ (0 ≤ z0 ∧ z0 ≤ 11 ∧ 0 ≤ z1 ∧ z1 ≤ 7))) := by
  refine metr_go (by decide) (Nat.le_of_ble_eq_true rfl) (fun p e s m below meth c ls S hr hlk hP hK hl => ?_)
  have hl : lv_has ls 2 [(0, .int p0), (1, .int p1)] := hl
  refine lv_iload_n S.1 S.2.1 dX12_isCell_0 rfl (lv_at hl 0 rfl) ?_
  refine lv_iconst (v := 0) S.1 S.2.1 dX12_isCell_1 (by decide) ?_
  refine lv_bipush (v := 11) S.1 S.2.1 dX12_isCell_2 (by decide) ?_
  refine call_ri (runS_R (wc := []) (As := [.int p0, .int 0, .int 11]) (rest := []) S (kX12_within l D cy p0 0 11 z0 h0 0 rfl 11 rfl) hK hP [] rfl kw_1892 kw_1893 kw_152 kw_1894 okX12_within rfl (by decide) hl.1 rfl (Nat.le_of_ble_eq_true rfl) dX12_isCell_4 (by decide)) (fun v4 w4 => ?_)
  rcases w4 with ⟨rfl, w4_0_0⟩ | ⟨rfl, w4_1_0⟩
  · refine r_if_eq S 1 rfl dX12_isCell_7 (tgt := 24) (by decide) (fun c => absurd c (by decide)) (fun _ => ?_)
    refine lv_iload_n S.1 S.2.1 dX12_isCell_10 rfl (lv_at hl 1 rfl) ?_
    refine lv_iconst (v := 0) S.1 S.2.1 dX12_isCell_11 (by decide) ?_
    refine lv_bipush (v := 7) S.1 S.2.1 dX12_isCell_12 (by decide) ?_
    refine call_ri (runS_R (wc := []) (As := [.int p1, .int 0, .int 7]) (rest := []) S (kX12_within l D cy p1 0 7 z1 h1 0 rfl 7 rfl) hK hP [] rfl kw_1892 kw_1893 kw_152 kw_1894 okX12_within rfl (by decide) hl.1 rfl (Nat.le_of_ble_eq_true rfl) dX12_isCell_14 (by decide)) (fun v14 w14 => ?_)
    rcases w14 with ⟨rfl, w14_0_0⟩ | ⟨rfl, w14_1_0⟩
    · refine r_if_eq S 1 rfl dX12_isCell_17 (tgt := 24) (by decide) (fun c => absurd c (by decide)) (fun _ => ?_)
      refine lv_iconst (v := 1) S.1 S.2.1 dX12_isCell_20 (by decide) ?_
      refine lv_goto (tgt := 25) S.1 S.2.1 dX12_isCell_21 (by decide) ?_
      exact ri_ret S hr hlk (by decide) (Or.inl ⟨rfl, (by omega)⟩) dX12_isCell_25
    · refine r_if_eq S 0 rfl dX12_isCell_17 (tgt := 24) (by decide) (fun _ => ?_) (fun c => absurd c (by decide))
      refine lv_iconst (v := 0) S.1 S.2.1 dX12_isCell_24 (by decide) ?_
      exact ri_ret S hr hlk (by decide) (Or.inr (⟨rfl, (by omega)⟩)) dX12_isCell_25
  · refine r_if_eq S 0 rfl dX12_isCell_7 (tgt := 24) (by decide) (fun _ => ?_) (fun c => absurd c (by decide))
    refine lv_iconst (v := 0) S.1 S.2.1 dX12_isCell_24 (by decide) ?_
    exact ri_ret S hr hlk (by decide) (Or.inr (⟨rfl, (by omega)⟩)) dX12_isCell_25
set_option maxHeartbeats 4000000 in
set_option maxRecDepth 100000 in
theorem kX11_days (l : Launch) (D : va_G) (cy : Nat → ClassId) (x : Nat → Nat) (p0 : Int32) (z0 : Int) (h0 : p0.toInt = z0) : CI l D cy yX11_days cX11_days 2 (some .int) 0 0 0 0 [.ref (x 0), .int p0] [((x 0), .inr (10, [.int 0, .int (-1), .ref (x 1), .ref (x 9), .int 0, .ref (x 10), .ref (x 13), .ref (x 16), .ref (x 29), .int 0, .int 0, .ref (x 30), .int 0, .ref (x 31), .ref (x 42), .int 0, .int 0, .null, .ref (x 43)]))] (fun (v : Int32) (u : Unit) => (v = p0 ∧ (0 ≤ z0 ∧ z0 ≤ 1000)) ∨ (v = (-1) ∧ ¬ (0 ≤ z0 ∧ z0 ≤ 1000))) (fun (u : Unit) => []) := by
  refine ci_go (by decide) (Nat.le_of_ble_eq_true rfl) (fun p e s m below meth c ls A hA S hr hlk hnm hP hK hD hl => ?_)
  have hS : va_S A s.heap s.heap [] := va_S.rf
  have hl : lv_has ls 2 [(0, .ref (x 0)), (1, .int p0)] := hl
  refine lv_iload_n S.1 S.2.1 dX11_days_0 rfl (lv_at hl 1 rfl) ?_
  refine r_if_lt S z0 h0 dX11_days_1 (tgt := 23) (by decide) (fun e_1_1 => ?_) (fun e_1_1 => ?_)
  · refine lv_iconst (v := (-1)) S.1 S.2.1 dX11_days_23 (by decide) ?_
    exact ci_ret (u := ()) S hr hlk rfl hK (hP.sub [] rfl) (hD.sub [] (by decide) rfl) hS (Or.inr (⟨rfl, (by omega)⟩)) (by decide) (by decide) dX11_days_24
  · refine lv_iload_n S.1 S.2.1 dX11_days_4 rfl (lv_at hl 1 rfl) ?_
    refine lv_sipush (v := 1000) S.1 S.2.1 dX11_days_5 (by decide) ?_
    refine r_icmp_gt S z0 1000 h0 rfl dX11_days_8 (tgt := 23) (by decide) (fun e_8_2 => ?_) (fun e_8_2 => ?_)
    · refine lv_iconst (v := (-1)) S.1 S.2.1 dX11_days_23 (by decide) ?_
      exact ci_ret (u := ()) S hr hlk rfl hK (hP.sub [] rfl) (hD.sub [] (by decide) rfl) hS (Or.inr (⟨rfl, (by omega)⟩)) (by decide) (by decide) dX11_days_24
    · refine lv_aload_n S.1 S.2.1 dX11_days_11 rfl (lv_at hl 0 rfl) ?_
      refine r_get S hK hP 0 10 rfl rfl inX11 0 (by decide) kw_468 (v := .int 0) rfl dX11_days_12 ?_
      refine lv_iload_n S.1 S.2.1 dX11_days_15 rfl (lv_at hl 1 rfl) ?_
      refine r_iadd S dX11_days_16 (v := p0) (Int32.zero_add _) ?_
      refine lv_sipush (v := 9999) S.1 S.2.1 dX11_days_17 (by decide) ?_
      refine r_icmp_le S z0 9999 h0 rfl dX11_days_20 (tgt := 25) (by decide) (fun e_20_3 => ?_) (fun e_20_3 => ?_)
      · refine lv_aload_n S.1 S.2.1 dX11_days_25 rfl (lv_at hl 0 rfl) ?_
        refine lv_dup S.1 S.2.1 dX11_days_26 rfl ?_
        refine r_get S hK hP 0 10 rfl rfl inX11 0 (by decide) kw_468 (v := .int 0) rfl dX11_days_27 ?_
        refine lv_iload_n S.1 S.2.1 dX11_days_30 rfl (lv_at hl 1 rfl) ?_
        refine r_iadd S dX11_days_31 (v := p0) (Int32.zero_add _) ?_
        refine r_put S hK hP hD hS 0 10 rfl rfl inX11 0 (by decide) tyX11 tyX11_ok nmX11 kw_468 (v := .int p0) rfl rfl rfl (Nat.le_of_ble_eq_true rfl) dX11_days_32 (fun H locs hP hD hS => ?_)
        have hP : va_P D vwCl [((x 0), .inr (10, [.int p0, .int (-1), .ref (x 1), .ref (x 9), .int 0, .ref (x 10), .ref (x 13), .ref (x 16), .ref (x 29), .int 0, .int 0, .ref (x 30), .int 0, .ref (x 31), .ref (x 42), .int 0, .int 0, .null, .ref (x 43)]))] H := hP
        have hD : va_D A [((x 0), .inr (10, [.int p0, .int (-1), .ref (x 1), .ref (x 9), .int 0, .ref (x 10), .ref (x 13), .ref (x 16), .ref (x 29), .int 0, .int 0, .ref (x 30), .int 0, .ref (x 31), .ref (x 42), .int 0, .int 0, .null, .ref (x 43)]))] := hD
        refine lv_aload_n S.1 S.2.1 dX11_days_35 rfl (lv_at hl 0 rfl) ?_
        refine r_get S hK hP 0 10 rfl rfl inX11 0 (by decide) kw_468 (v := .int p0) rfl dX11_days_36 ?_
        exact ci_ret (u := ()) S hr hlk rfl hK (hP.sub [] rfl) (hD.sub [] (by decide) rfl) hS (Or.inl ⟨rfl, (by omega)⟩) (by decide) (by decide) dX11_days_39
      · refine lv_iconst (v := (-1)) S.1 S.2.1 dX11_days_23 (by decide) ?_
        exact ci_ret (u := ()) S hr hlk rfl hK (hP.sub [] rfl) (hD.sub [] (by decide) rfl) hS (Or.inr (⟨rfl, (by omega)⟩)) (by decide) (by decide) dX11_days_24
