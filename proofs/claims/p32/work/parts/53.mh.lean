abbrev cL_look : ByteArray := method_3_code
def yL_look : MethodName := ⟨"LandSurveyLaw", "look", "(LLandSurvey;II[J)I"⟩
theorem okL_look : yok yL_look 4 := by decide +kernel
theorem dL_look_0 : decode cL_look 0 = .ok (.aload_n 3, 1) := by decide +kernel
theorem dL_look_1 : decode cL_look 1 = .ok (.iconst 0, 1) := by decide +kernel
theorem dL_look_2 : decode cL_look 2 = .ok (.aload_n 0, 1) := by decide +kernel
theorem dL_look_3 : decode cL_look 3 = .ok (.iload_n 1, 1) := by decide +kernel
theorem dL_look_4 : decode cL_look 4 = .ok (.iload_n 2, 1) := by decide +kernel
theorem dL_look_5 : decode cL_look 5 = .ok (.invokevirtual 7, 3) := by decide +kernel
theorem kw_1368 : Cond.code yX11_look prog_1_method_15_code 4 (some .int) ∈ uu := uu_in (i := 1368) (by decide +kernel) (by decide +kernel)
theorem kw_1365 : Cond.methodLink "LandSurveyLaw" 7 yX11_look ∈ uu := uu_in (i := 1365) (by decide +kernel) (by decide +kernel)
theorem kw_1366 : Cond.instanceMethod yX11_look ∈ uu := uu_in (i := 1366) (by decide +kernel) (by decide +kernel)
theorem kw_1367 : Cond.selects "LandSurvey" yX11_look yX11_look ∈ uu := uu_in (i := 1367) (by decide +kernel) (by decide +kernel)
theorem lk_LandSurveyLaw_7 : lkV "LandSurveyLaw" 7 yX11_look cX11_look 4 (some .int) 2 := ⟨kw_1365, kw_1366, kw_1367, kw_144, kw_1368, okX11_look⟩
theorem kw_1364 : Cond.classLink "LandSurveyLaw" 13 "java/util/NoSuchElementException" ∈ uu := uu_in (i := 1364) (by decide +kernel) (by decide +kernel)
theorem dL_look_13 : decode cL_look 13 = .ok (.astore 4, 2) := by decide +kernel
theorem dL_look_15 : decode cL_look 15 = .ok (.iconst 1, 1) := by decide +kernel
theorem dL_look_16 : decode cL_look 16 = .ok (.ireturn, 1) := by decide +kernel
theorem dL_look_8 : decode cL_look 8 = .ok (.i2l, 1) := by decide +kernel
theorem dL_look_9 : decode cL_look 9 = .ok (.lastore, 1) := by decide +kernel
theorem dL_look_10 : decode cL_look 10 = .ok (.goto 7, 3) := by decide +kernel
theorem dL_look_17 : decode cL_look 17 = .ok (.iconst 0, 1) := by decide +kernel
theorem dL_look_18 : decode cL_look 18 = .ok (.ireturn, 1) := by decide +kernel
abbrev cL_base : ByteArray := method_4_code
def yL_base : MethodName := ⟨"LandSurveyLaw", "base", "(LLandSurvey;IIII[J)I"⟩
theorem okL_base : yok yL_base 6 := by decide +kernel
theorem dL_base_0 : decode cL_base 0 = .ok (.aload 5, 2) := by decide +kernel
theorem dL_base_2 : decode cL_base 2 = .ok (.iconst 0, 1) := by decide +kernel
theorem dL_base_3 : decode cL_base 3 = .ok (.aload_n 0, 1) := by decide +kernel
theorem dL_base_4 : decode cL_base 4 = .ok (.iload_n 1, 1) := by decide +kernel
theorem dL_base_5 : decode cL_base 5 = .ok (.iload_n 2, 1) := by decide +kernel
theorem dL_base_6 : decode cL_base 6 = .ok (.iload_n 3, 1) := by decide +kernel
theorem dL_base_7 : decode cL_base 7 = .ok (.iload 4, 2) := by decide +kernel
theorem dL_base_9 : decode cL_base 9 = .ok (.invokevirtual 15, 3) := by decide +kernel
theorem kw_1440 : Cond.code yX11_base prog_1_method_20_code 7 (some .int) ∈ uu := uu_in (i := 1440) (by decide +kernel) (by decide +kernel)
theorem kw_1437 : Cond.methodLink "LandSurveyLaw" 15 yX11_base ∈ uu := uu_in (i := 1437) (by decide +kernel) (by decide +kernel)
theorem kw_1438 : Cond.instanceMethod yX11_base ∈ uu := uu_in (i := 1438) (by decide +kernel) (by decide +kernel)
theorem kw_1439 : Cond.selects "LandSurvey" yX11_base yX11_base ∈ uu := uu_in (i := 1439) (by decide +kernel) (by decide +kernel)
theorem lk_LandSurveyLaw_15 : lkV "LandSurveyLaw" 15 yX11_base cX11_base 7 (some .int) 4 := ⟨kw_1437, kw_1438, kw_1439, kw_144, kw_1440, okX11_base⟩
theorem dL_base_17 : decode cL_base 17 = .ok (.astore 6, 2) := by decide +kernel
theorem dL_base_19 : decode cL_base 19 = .ok (.iconst 1, 1) := by decide +kernel
theorem dL_base_20 : decode cL_base 20 = .ok (.ireturn, 1) := by decide +kernel
theorem dL_base_12 : decode cL_base 12 = .ok (.i2l, 1) := by decide +kernel
theorem dL_base_13 : decode cL_base 13 = .ok (.lastore, 1) := by decide +kernel
theorem dL_base_14 : decode cL_base 14 = .ok (.goto 7, 3) := by decide +kernel
theorem dL_base_21 : decode cL_base 21 = .ok (.iconst 0, 1) := by decide +kernel
theorem dL_base_22 : decode cL_base 22 = .ok (.ireturn, 1) := by decide +kernel
abbrev cL_deep : ByteArray := method_5_code
def yL_deep : MethodName := ⟨"LandSurveyLaw", "deep", "(LLandSurvey;IIII[J)I"⟩
theorem okL_deep : yok yL_deep 6 := by decide +kernel
theorem dL_deep_0 : decode cL_deep 0 = .ok (.aload 5, 2) := by decide +kernel
theorem dL_deep_2 : decode cL_deep 2 = .ok (.iconst 0, 1) := by decide +kernel
theorem dL_deep_3 : decode cL_deep 3 = .ok (.aload_n 0, 1) := by decide +kernel
theorem dL_deep_4 : decode cL_deep 4 = .ok (.iload_n 1, 1) := by decide +kernel
theorem dL_deep_5 : decode cL_deep 5 = .ok (.iload_n 2, 1) := by decide +kernel
theorem dL_deep_6 : decode cL_deep 6 = .ok (.iload_n 3, 1) := by decide +kernel
theorem dL_deep_7 : decode cL_deep 7 = .ok (.iload 4, 2) := by decide +kernel
theorem dL_deep_9 : decode cL_deep 9 = .ok (.invokevirtual 19, 3) := by decide +kernel
theorem kw_1447 : Cond.code yX11_deep prog_1_method_23_code 6 (some .int) ∈ uu := uu_in (i := 1447) (by decide +kernel) (by decide +kernel)
theorem kw_1444 : Cond.methodLink "LandSurveyLaw" 19 yX11_deep ∈ uu := uu_in (i := 1444) (by decide +kernel) (by decide +kernel)
theorem kw_1445 : Cond.instanceMethod yX11_deep ∈ uu := uu_in (i := 1445) (by decide +kernel) (by decide +kernel)
theorem kw_1446 : Cond.selects "LandSurvey" yX11_deep yX11_deep ∈ uu := uu_in (i := 1446) (by decide +kernel) (by decide +kernel)
theorem lk_LandSurveyLaw_19 : lkV "LandSurveyLaw" 19 yX11_deep cX11_deep 6 (some .int) 4 := ⟨kw_1444, kw_1445, kw_1446, kw_144, kw_1447, okX11_deep⟩
theorem dL_deep_17 : decode cL_deep 17 = .ok (.astore 6, 2) := by decide +kernel
theorem dL_deep_19 : decode cL_deep 19 = .ok (.iconst 1, 1) := by decide +kernel
theorem dL_deep_20 : decode cL_deep 20 = .ok (.ireturn, 1) := by decide +kernel
theorem dL_deep_12 : decode cL_deep 12 = .ok (.i2l, 1) := by decide +kernel
theorem dL_deep_13 : decode cL_deep 13 = .ok (.lastore, 1) := by decide +kernel
theorem dL_deep_14 : decode cL_deep 14 = .ok (.goto 7, 3) := by decide +kernel
theorem dL_deep_21 : decode cL_deep 21 = .ok (.iconst 0, 1) := by decide +kernel
theorem dL_deep_22 : decode cL_deep 22 = .ok (.ireturn, 1) := by decide +kernel
abbrev cL_habit : ByteArray := method_6_code
def yL_habit : MethodName := ⟨"LandSurveyLaw", "habit", "(LLandSurvey;I[J)I"⟩
theorem okL_habit : yok yL_habit 3 := by decide +kernel
theorem dL_habit_0 : decode cL_habit 0 = .ok (.aload_n 2, 1) := by decide +kernel
theorem dL_habit_1 : decode cL_habit 1 = .ok (.iconst 0, 1) := by decide +kernel
theorem dL_habit_2 : decode cL_habit 2 = .ok (.aload_n 0, 1) := by decide +kernel
theorem dL_habit_3 : decode cL_habit 3 = .ok (.iload_n 1, 1) := by decide +kernel
theorem dL_habit_4 : decode cL_habit 4 = .ok (.invokevirtual 22, 3) := by decide +kernel
theorem kw_1458 : Cond.code yX11_habit prog_1_method_31_code 6 (some .int) ∈ uu := uu_in (i := 1458) (by decide +kernel) (by decide +kernel)
theorem kw_1455 : Cond.methodLink "LandSurveyLaw" 22 yX11_habit ∈ uu := uu_in (i := 1455) (by decide +kernel) (by decide +kernel)
theorem kw_1456 : Cond.instanceMethod yX11_habit ∈ uu := uu_in (i := 1456) (by decide +kernel) (by decide +kernel)
theorem kw_1457 : Cond.selects "LandSurvey" yX11_habit yX11_habit ∈ uu := uu_in (i := 1457) (by decide +kernel) (by decide +kernel)
theorem lk_LandSurveyLaw_22 : lkV "LandSurveyLaw" 22 yX11_habit cX11_habit 6 (some .int) 1 := ⟨kw_1455, kw_1456, kw_1457, kw_144, kw_1458, okX11_habit⟩
theorem dL_habit_12 : decode cL_habit 12 = .ok (.astore_n 3, 1) := by decide +kernel
theorem dL_habit_13 : decode cL_habit 13 = .ok (.iconst 1, 1) := by decide +kernel
theorem dL_habit_14 : decode cL_habit 14 = .ok (.ireturn, 1) := by decide +kernel
theorem dL_habit_7 : decode cL_habit 7 = .ok (.i2l, 1) := by decide +kernel
theorem dL_habit_8 : decode cL_habit 8 = .ok (.lastore, 1) := by decide +kernel
theorem dL_habit_9 : decode cL_habit 9 = .ok (.goto 6, 3) := by decide +kernel
theorem dL_habit_15 : decode cL_habit 15 = .ok (.iconst 0, 1) := by decide +kernel
theorem dL_habit_16 : decode cL_habit 16 = .ok (.ireturn, 1) := by decide +kernel
def wr_k_L_look : List Nat := [401, 402, 403, 404, 405, 406, 1403, 1404, 1405, 1412, 1813, 1814, 1815, 1816, 1817, 1818, 2003, 2207, 2215, 2216, 2217, 200400, 200407, 200408, 7420000, 8020000, 8220400, 8420400, 8620000, 9020000, 9220400, 9420000, 9821400, 10020000, 19820400, 1000000002, 1000001002, 1000010100, 1000011100]
set_option maxRecDepth 100000 in
set_option maxHeartbeats 4000000 in
theorem k_L_look (l : Launch) (hst : l.stackTraces = false) (D : va_G) (cy : Nat → ClassId) (w : Nat → Nat) (z0 : Nat)  {h : Hp} {a0 : Nat} {a1 : Int} {a2 : Int} {a3 : Nat}  (O : Okh h) (ta0 : Tg h a0 = 11) (fa1 : (-2147483648) ≤ a1 ∧ a1 ≤ 2147483647) (fa2 : (-2147483648) ≤ a2 ∧ a2 ≤ 2147483647) (ta3 : Tg h a3 = 99102) (la3 : Ln h a3 = 1) (P_XIa : XInv h a0) : MW l D cy w z0 yL_look cL_look 5 (some .int) [(0, 10, 13, 13)] 13 360 97 6438 [.inr (.inr a0), .inl a1, .inl a2, .inr (.inr a3)] h (fun v h1 => Okh h1 ∧ Fx wr_k_L_look h h1 ∧ (0 ≤ v ∧ v ≤ 1) ∧ (XInv h1 a0)) := by
  refine wm_go (by decide +kernel) (Nat.le_of_ble_eq_true rfl) (fun p e s m below meth c C hr hTab => ?_)
  refine g_aload_n C rfl 3 rfl dL_look_0 ?_
  refine g_iconst C dL_look_1 ?_
  refine g_aload_n C rfl 0 rfl dL_look_2 ?_
  refine g_iload_n C rfl 1 rfl dL_look_3 ?_
  refine g_iload_n C rfl 2 rfl dL_look_4 ?_
  refine g_callX (st := [.inl 0, .inr (.inr a3)]) C hTab (by decide) kw_1364 (gx_V C lk_LandSurveyLaw_7 (k_X11_look l hst D cy w z0 O ta0 fa1 fa2 P_XIa) ta0 rfl rfl rfl ⟨by decide, by decide⟩ (Nat.le_of_ble_eq_true rfl) dL_look_5 ⟨(by decide), (by decide)⟩) (fun q1 h2 K3 => ?_) (fun r4 h5 f6 K7 => ?_)
  · obtain ⟨O8, F9, p10⟩ := K3
    refine g_astore C [(4, .inr (.inr q1)), (0, .inr (.inr a0)), (1, .inl a1), (2, .inl a2), (3, .inr (.inr a3))] (by decide) rfl dL_look_13 ?_
    refine g_iconst C dL_look_15 ?_
    exact g_iret C hr rfl (iw (il 1) (by decide) (by decide)) ⟨O8, ((Fx.rf (wr := wr_k_L_look)).call F9 rfl), (iw (il 1) (by decide) (by decide)), p10⟩ (by decide) (by decide) dL_look_16
  · obtain ⟨O11, F12, f14, p13⟩ := K7
    refine g_i2l C f14 dL_look_8 ?_
    have e15 : Tg h5 a3 = 99102 := (fxT F12 ta3)
    have e16 : Ln h5 a3 = 1 := ((fxL F12 ta3).trans la3)
    refine g_last C e15 rfl e16 (ix (il 0) (by decide) (by decide)) (iw f14 (by decide) (by decide)) dL_look_9 (fun h18 hh17 => ?_)
    have O19 := O11.pJ hh17 (iw f14 (by decide) (by decide))
    refine g_goto C 17 (by decide) dL_look_10 ?_
    refine g_iconst C dL_look_17 ?_
    have e20 : Tg h5 a0 = 11 := (fxT F12 ta0)
    have p21 := (XInv_fx O11 ((Fx.rf (wr := [19820400]) (h := h5)).pJa e15 ar_99102 hh17 rfl) e20 rfl p13)
    exact g_iret C hr rfl (iw (il 0) (by decide) (by decide)) ⟨O19, (((Fx.rf (wr := wr_k_L_look)).call F12 rfl).pJa e15 ar_99102 hh17 rfl), (iw (il 0) (by decide) (by decide)), p21⟩ (by decide) (by decide) dL_look_18
def wr_k_L_base : List Nat := [401, 402, 403, 404, 405, 406, 1403, 1404, 1405, 1412, 1813, 1814, 1815, 1816, 1817, 1818, 2003, 2207, 2215, 2216, 200400, 200407, 200408, 2020000, 2220000, 7420000, 8020000, 8220400, 8420400, 8620000, 9020000, 9220400, 9420000, 9821400, 10020000, 19820400, 1000000002, 1000001002, 1000010100, 1000011100]
set_option maxRecDepth 100000 in
set_option maxHeartbeats 4000000 in
theorem k_L_base (l : Launch) (hst : l.stackTraces = false) (D : va_G) (cy : Nat → ClassId) (w : Nat → Nat) (z0 : Nat)  {h : Hp} {a0 : Nat} {a1 : Int} {a2 : Int} {a3 : Int} {a4 : Int} {a5 : Nat}  (O : Okh h) (ta0 : Tg h a0 = 11) (fa1 : (-2147483648) ≤ a1 ∧ a1 ≤ 2147483647) (fa2 : (-2147483648) ≤ a2 ∧ a2 ≤ 2147483647) (fa3 : (-2147483648) ≤ a3 ∧ a3 ≤ 2147483647) (fa4 : (-2147483648) ≤ a4 ∧ a4 ≤ 2147483647) (ta5 : Tg h a5 = 99102) (la5 : Ln h a5 = 1) (P_XIa : XInv h a0) : MW l D cy w z0 yL_base cL_base 7 (some .int) [(0, 14, 17, 13)] 12 339 97 6438 [.inr (.inr a0), .inl a1, .inl a2, .inl a3, .inl a4, .inr (.inr a5)] h (fun v h1 => Okh h1 ∧ Fx wr_k_L_base h h1 ∧ (0 ≤ v ∧ v ≤ 1) ∧ (XInv h1 a0)) := by
  refine wm_go (by decide +kernel) (Nat.le_of_ble_eq_true rfl) (fun p e s m below meth c C hr hTab => ?_)
  refine g_aload C 5 rfl dL_base_0 ?_
  refine g_iconst C dL_base_2 ?_
  refine g_aload_n C rfl 0 rfl dL_base_3 ?_
  refine g_iload_n C rfl 1 rfl dL_base_4 ?_
  refine g_iload_n C rfl 2 rfl dL_base_5 ?_
  refine g_iload_n C rfl 3 rfl dL_base_6 ?_
  refine g_iload C 4 rfl dL_base_7 ?_
  refine g_callX (st := [.inl 0, .inr (.inr a5)]) C hTab (by decide) kw_1364 (gx_V C lk_LandSurveyLaw_15 (k_X11_base l hst D cy w z0 O ta0 fa1 fa2 fa3 fa4 P_XIa) ta0 rfl rfl rfl ⟨by decide, by decide⟩ (Nat.le_of_ble_eq_true rfl) dL_base_9 ⟨(by decide), (by decide)⟩) (fun q1 h2 K3 => ?_) (fun r4 h5 f6 K7 => ?_)
  · obtain ⟨O8, F9, p10⟩ := K3
    refine g_astore C [(6, .inr (.inr q1)), (0, .inr (.inr a0)), (1, .inl a1), (2, .inl a2), (3, .inl a3), (4, .inl a4), (5, .inr (.inr a5))] (by decide) rfl dL_base_17 ?_
    refine g_iconst C dL_base_19 ?_
    exact g_iret C hr rfl (iw (il 1) (by decide) (by decide)) ⟨O8, ((Fx.rf (wr := wr_k_L_base)).call F9 rfl), (iw (il 1) (by decide) (by decide)), p10⟩ (by decide) (by decide) dL_base_20
  · obtain ⟨O11, F12, f14, p13⟩ := K7
    refine g_i2l C f14 dL_base_12 ?_
    have e15 : Tg h5 a5 = 99102 := (fxT F12 ta5)
    have e16 : Ln h5 a5 = 1 := ((fxL F12 ta5).trans la5)
    refine g_last C e15 rfl e16 (ix (il 0) (by decide) (by decide)) (iw f14 (by decide) (by decide)) dL_base_13 (fun h18 hh17 => ?_)
    have O19 := O11.pJ hh17 (iw f14 (by decide) (by decide))
    refine g_goto C 21 (by decide) dL_base_14 ?_
    refine g_iconst C dL_base_21 ?_
    have e20 : Tg h5 a0 = 11 := (fxT F12 ta0)
    have p21 := (XInv_fx O11 ((Fx.rf (wr := [19820400]) (h := h5)).pJa e15 ar_99102 hh17 rfl) e20 rfl p13)
    exact g_iret C hr rfl (iw (il 0) (by decide) (by decide)) ⟨O19, (((Fx.rf (wr := wr_k_L_base)).call F12 rfl).pJa e15 ar_99102 hh17 rfl), (iw (il 0) (by decide) (by decide)), p21⟩ (by decide) (by decide) dL_base_22
def wr_k_L_deep : List Nat := [401, 402, 403, 404, 405, 406, 1403, 1404, 1405, 1412, 1813, 1814, 1815, 1816, 1817, 1818, 2003, 2207, 2215, 2216, 2217, 200400, 200407, 200408, 2020000, 2220000, 7420000, 8020000, 8220400, 8420400, 8620000, 9020000, 9220400, 9420000, 9821400, 10020000, 19820400, 1000000002, 1000001002, 1000010100, 1000011100]
set_option maxRecDepth 100000 in
set_option maxHeartbeats 4000000 in
theorem k_L_deep (l : Launch) (hst : l.stackTraces = false) (D : va_G) (cy : Nat → ClassId) (w : Nat → Nat) (z0 : Nat)  {h : Hp} {a0 : Nat} {a1 : Int} {a2 : Int} {a3 : Int} {a4 : Int} {a5 : Nat}  (O : Okh h) (ta0 : Tg h a0 = 11) (fa1 : (-2147483648) ≤ a1 ∧ a1 ≤ 2147483647) (fa2 : (-2147483648) ≤ a2 ∧ a2 ≤ 2147483647) (fa3 : (-2147483648) ≤ a3 ∧ a3 ≤ 2147483647) (fa4 : (-2147483648) ≤ a4 ∧ a4 ≤ 2147483647) (ta5 : Tg h a5 = 99102) (la5 : Ln h a5 = 1) (P_XIa : XInv h a0) : MW l D cy w z0 yL_deep cL_deep 7 (some .int) [(0, 14, 17, 13)] 13 360 97 6438 [.inr (.inr a0), .inl a1, .inl a2, .inl a3, .inl a4, .inr (.inr a5)] h (fun v h1 => Okh h1 ∧ Fx wr_k_L_deep h h1 ∧ (0 ≤ v ∧ v ≤ 1) ∧ (XInv h1 a0)) := by
  refine wm_go (by decide +kernel) (Nat.le_of_ble_eq_true rfl) (fun p e s m below meth c C hr hTab => ?_)
  refine g_aload C 5 rfl dL_deep_0 ?_
  refine g_iconst C dL_deep_2 ?_
  refine g_aload_n C rfl 0 rfl dL_deep_3 ?_
  refine g_iload_n C rfl 1 rfl dL_deep_4 ?_
  refine g_iload_n C rfl 2 rfl dL_deep_5 ?_
  refine g_iload_n C rfl 3 rfl dL_deep_6 ?_
  refine g_iload C 4 rfl dL_deep_7 ?_
  refine g_callX (st := [.inl 0, .inr (.inr a5)]) C hTab (by decide) kw_1364 (gx_V C lk_LandSurveyLaw_19 (k_X11_deep l hst D cy w z0 O ta0 fa1 fa2 fa3 fa4 P_XIa) ta0 rfl rfl rfl ⟨by decide, by decide⟩ (Nat.le_of_ble_eq_true rfl) dL_deep_9 ⟨(by decide), (by decide)⟩) (fun q1 h2 K3 => ?_) (fun r4 h5 f6 K7 => ?_)
  · obtain ⟨O8, F9, p10⟩ := K3
    refine g_astore C [(6, .inr (.inr q1)), (0, .inr (.inr a0)), (1, .inl a1), (2, .inl a2), (3, .inl a3), (4, .inl a4), (5, .inr (.inr a5))] (by decide) rfl dL_deep_17 ?_
    refine g_iconst C dL_deep_19 ?_
    exact g_iret C hr rfl (iw (il 1) (by decide) (by decide)) ⟨O8, ((Fx.rf (wr := wr_k_L_deep)).call F9 rfl), (iw (il 1) (by decide) (by decide)), p10⟩ (by decide) (by decide) dL_deep_20
  · obtain ⟨O11, F12, f14, p13⟩ := K7
    refine g_i2l C f14 dL_deep_12 ?_
    have e15 : Tg h5 a5 = 99102 := (fxT F12 ta5)
    have e16 : Ln h5 a5 = 1 := ((fxL F12 ta5).trans la5)
    refine g_last C e15 rfl e16 (ix (il 0) (by decide) (by decide)) (iw f14 (by decide) (by decide)) dL_deep_13 (fun h18 hh17 => ?_)
    have O19 := O11.pJ hh17 (iw f14 (by decide) (by decide))
    refine g_goto C 21 (by decide) dL_deep_14 ?_
    refine g_iconst C dL_deep_21 ?_
    have e20 : Tg h5 a0 = 11 := (fxT F12 ta0)
    have p21 := (XInv_fx O11 ((Fx.rf (wr := [19820400]) (h := h5)).pJa e15 ar_99102 hh17 rfl) e20 rfl p13)
    exact g_iret C hr rfl (iw (il 0) (by decide) (by decide)) ⟨O19, (((Fx.rf (wr := wr_k_L_deep)).call F12 rfl).pJa e15 ar_99102 hh17 rfl), (iw (il 0) (by decide) (by decide)), p21⟩ (by decide) (by decide) dL_deep_22
def wr_k_L_habit : List Nat := [401, 1403, 1404, 1405, 1813, 1814, 1815, 1816, 1817, 1818, 2207, 2215, 2216, 200400, 200407, 200408, 7420000, 9821400, 10020000, 19820400, 1000000002, 1000001002, 1000010100, 1000011100]
set_option maxRecDepth 100000 in
set_option maxHeartbeats 4000000 in
theorem k_L_habit (l : Launch) (hst : l.stackTraces = false) (D : va_G) (cy : Nat → ClassId) (w : Nat → Nat) (z0 : Nat)  {h : Hp} {a0 : Nat} {a1 : Int} {a2 : Nat}  (O : Okh h) (ta0 : Tg h a0 = 11) (fa1 : (-2147483648) ≤ a1 ∧ a1 ≤ 2147483647) (ta2 : Tg h a2 = 99102) (la2 : Ln h a2 = 1) (P_XIa : XInv h a0) : MW l D cy w z0 yL_habit cL_habit 4 (some .int) [(0, 9, 12, 13)] 8 176 97 6438 [.inr (.inr a0), .inl a1, .inr (.inr a2)] h (fun v h1 => Okh h1 ∧ Fx wr_k_L_habit h h1 ∧ (0 ≤ v ∧ v ≤ 1) ∧ (XInv h1 a0)) := by
  refine wm_go (by decide +kernel) (Nat.le_of_ble_eq_true rfl) (fun p e s m below meth c C hr hTab => ?_)
  refine g_aload_n C rfl 2 rfl dL_habit_0 ?_
  refine g_iconst C dL_habit_1 ?_
  refine g_aload_n C rfl 0 rfl dL_habit_2 ?_
  refine g_iload_n C rfl 1 rfl dL_habit_3 ?_
  refine g_callX (st := [.inl 0, .inr (.inr a2)]) C hTab (by decide) kw_1364 (gx_V C lk_LandSurveyLaw_22 (k_X11_habit l hst D cy w z0 O ta0 fa1 P_XIa) ta0 rfl rfl rfl ⟨by decide, by decide⟩ (Nat.le_of_ble_eq_true rfl) dL_habit_4 ⟨(by decide), (by decide)⟩) (fun q1 h2 K3 => ?_) (fun r4 h5 f6 K7 => ?_)
  · obtain ⟨O8, F9, p10⟩ := K3
    refine g_astore_n C [(3, .inr (.inr q1)), (0, .inr (.inr a0)), (1, .inl a1), (2, .inr (.inr a2))] rfl (by decide) rfl dL_habit_12 ?_
    refine g_iconst C dL_habit_13 ?_
    exact g_iret C hr rfl (iw (il 1) (by decide) (by decide)) ⟨O8, ((Fx.rf (wr := wr_k_L_habit)).call F9 rfl), (iw (il 1) (by decide) (by decide)), p10⟩ (by decide) (by decide) dL_habit_14
  · obtain ⟨O11, F12, f14, p13⟩ := K7
    refine g_i2l C f14 dL_habit_7 ?_
    have e15 : Tg h5 a2 = 99102 := (fxT F12 ta2)
    have e16 : Ln h5 a2 = 1 := ((fxL F12 ta2).trans la2)
    refine g_last C e15 rfl e16 (ix (il 0) (by decide) (by decide)) (iw f14 (by decide) (by decide)) dL_habit_8 (fun h18 hh17 => ?_)
    have O19 := O11.pJ hh17 (iw f14 (by decide) (by decide))
    refine g_goto C 15 (by decide) dL_habit_9 ?_
    refine g_iconst C dL_habit_15 ?_
    have e20 : Tg h5 a0 = 11 := (fxT F12 ta0)
    have p21 := (XInv_fx O11 ((Fx.rf (wr := [19820400]) (h := h5)).pJa e15 ar_99102 hh17 rfl) e20 rfl p13)
    exact g_iret C hr rfl (iw (il 0) (by decide) (by decide)) ⟨O19, (((Fx.rf (wr := wr_k_L_habit)).call F12 rfl).pJa e15 ar_99102 hh17 rfl), (iw (il 0) (by decide) (by decide)), p21⟩ (by decide) (by decide) dL_habit_16
def wr_k2_X11_days : List Nat := [2200]
set_option maxRecDepth 100000 in
set_option maxHeartbeats 4000000 in
theorem k2_X11_days (l : Launch) (D : va_G) (cy : Nat → ClassId) (w : Nat → Nat) (z0 : Nat)  {h : Hp} {a0 : Nat} {a1 : Int}  (O : Okh h) (ta0 : Tg h a0 = 11) (fa1 : (-2147483648) ≤ a1 ∧ a1 ≤ 2147483647) : MI l D cy w z0 yX11_days cX11_days 2 (some .int) 0 0 0 0 [.inr (.inr a0), .inl a1] h (fun v h1 => Okh h1 ∧ Fx wr_k2_X11_days h h1 ∧ ((-1) ≤ v ∧ v ≤ 9999) ∧ (v = dyF a1 (Iv h a0 0)) ∧ (Iv h1 a0 0 = dnF a1 (Iv h a0 0))) := by
  refine hm_go (by decide +kernel) (Nat.le_of_ble_eq_true rfl) (fun p e s m below meth c C hr hn => ?_)
  obtain ⟨v1, e2⟩ : ∃ z, Iv h a0 0 = z := ⟨_, rfl⟩
  have f3 := ok_I O ta0 rI_11_0 e2
  refine g_iload_n C rfl 1 rfl dX11_days_0 ?_
  refine g_if_lt C fa1 23 (by decide) dX11_days_1 (fun q4 => ?_) (fun q5 => ?_)
  · have f6 : (-2147483648 : Int) ≤ a1 ∧ a1 ≤ (-1 : Int) := r_lt fa1 (il 0) q4 (by decide) (by decide)
    refine g_iconst C dX11_days_23 ?_
    exact g_iret C hr rfl (iw (il (-1)) (by decide) (by decide)) ⟨O, Fx.rf, (iw (il (-1)) (by decide) (by decide)), (by unfold dyF; rw [e2]; split <;> omega), (by unfold dnF; rw [e2]; split <;> omega)⟩ (by decide) (by decide) dX11_days_24
  · have f7 : (0 : Int) ≤ a1 ∧ a1 ≤ (2147483647 : Int) := r_ge fa1 (il 0) q5 (by decide) (by decide)
    refine g_iload_n C rfl 1 rfl dX11_days_4 ?_
    refine g_sipush C (by decide) dX11_days_5 ?_
    refine g_icmp_gt C (iw f7 (by decide) (by decide)) (iw (il 1000) (by decide) (by decide)) 23 (by decide) dX11_days_8 (fun q8 => ?_) (fun q9 => ?_)
    · have f10 : (1001 : Int) ≤ a1 ∧ a1 ≤ (2147483647 : Int) := r_gt f7 (il 1000) q8 (by decide) (by decide)
      refine g_iconst C dX11_days_23 ?_
      exact g_iret C hr rfl (iw (il (-1)) (by decide) (by decide)) ⟨O, Fx.rf, (iw (il (-1)) (by decide) (by decide)), (by unfold dyF; rw [e2]; split <;> omega), (by unfold dnF; rw [e2]; split <;> omega)⟩ (by decide) (by decide) dX11_days_24
    · have f11 : (0 : Int) ≤ a1 ∧ a1 ≤ (1000 : Int) := r_le f7 (il 1000) q9 (by decide) (by decide)
      refine g_aload_n C rfl 0 rfl dX11_days_11 ?_
      refine gf_I C fk_LandSurvey_78 rfl ta0 e2 dX11_days_12 ?_
      refine g_iload_n C rfl 1 rfl dX11_days_15 ?_
      have f12 : (0 : Int) ≤ (v1 + a1) ∧ (v1 + a1) ≤ (10999 : Int) := ia_add f3 f11 (by decide) (by decide)
      refine g_iadd C dX11_days_16 ?_
      refine g_sipush C (by decide) dX11_days_17 ?_
      refine g_icmp_le C (iw f12 (by decide) (by decide)) (iw (il 9999) (by decide) (by decide)) 25 (by decide) dX11_days_20 (fun q13 => ?_) (fun q14 => ?_)
      · have f15 : (0 : Int) ≤ (v1 + a1) ∧ (v1 + a1) ≤ (9999 : Int) := r_le f12 (il 9999) q13 (by decide) (by decide)
        refine g_aload_n C rfl 0 rfl dX11_days_25 ?_
        refine g_dup C rfl dX11_days_26 ?_
        refine gf_I C fk_LandSurvey_78 rfl ta0 e2 dX11_days_27 ?_
        refine g_iload_n C rfl 1 rfl dX11_days_30 ?_
        refine g_iadd C dX11_days_31 ?_
        refine gp_I C fk_LandSurvey_78 pk_LandSurvey_0 rfl ta0 (iw f15 (by decide) (by decide)) (nf_i _) dX11_days_32 (fun h17 hh16 => ?_)
        have O18 := O.pI ta0 hh16 rI_11_0 f15 nofun
        refine g_aload_n C rfl 0 rfl dX11_days_35 ?_
        have e19 : Tg h17 a0 = 11 := ((pIT hh16).trans ta0)
        refine gf_I C fk_LandSurvey_78 rfl e19 (pI_e hh16) dX11_days_36 ?_
        exact g_iret C hr rfl (iw f15 (by decide) (by decide)) ⟨O18, ((Fx.rf (wr := wr_k2_X11_days)).pI ta0 hh16 rfl), (iw f15 (by decide) (by decide)), (by unfold dyF; rw [e2]; split <;> omega), (by unfold dnF; rw [(pI_e hh16), e2]; split <;> omega)⟩ (by decide) (by decide) dX11_days_39
      · have f20 : (10000 : Int) ≤ (v1 + a1) ∧ (v1 + a1) ≤ (10999 : Int) := r_gt f12 (il 9999) q14 (by decide) (by decide)
        refine g_iconst C dX11_days_23 ?_
        exact g_iret C hr rfl (iw (il (-1)) (by decide) (by decide)) ⟨O, Fx.rf, (iw (il (-1)) (by decide) (by decide)), (by unfold dyF; rw [e2]; split <;> omega), (by unfold dnF; rw [e2]; split <;> omega)⟩ (by decide) (by decide) dX11_days_24
