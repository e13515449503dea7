abbrev cX11_look : ByteArray := prog_1_method_15_code
def yX11_look : MethodName := ⟨RX11, "look", "(II)I"⟩
theorem okX11_look : yok yX11_look 2 := by decide +kernel
abbrev cX11_base : ByteArray := prog_1_method_20_code
def yX11_base : MethodName := ⟨RX11, "base", "(IIII)I"⟩
theorem okX11_base : yok yX11_base 4 := by decide +kernel
abbrev cX11_deep : ByteArray := prog_1_method_23_code
def yX11_deep : MethodName := ⟨RX11, "deep", "(IIII)I"⟩
theorem okX11_deep : yok yX11_deep 4 := by decide +kernel
abbrev cX11_habit : ByteArray := prog_1_method_31_code
def yX11_habit : MethodName := ⟨RX11, "habit", "(I)I"⟩
theorem okX11_habit : yok yX11_habit 1 := by decide +kernel
abbrev cL_look : ByteArray := method_3_code
def yL_look : MethodName := ⟨"LandSurveyLaw", "look", "(LLandSurvey;II[J)I"⟩
theorem okL_look : yok yL_look 4 := by decide +kernel
abbrev cL_base : ByteArray := method_4_code
def yL_base : MethodName := ⟨"LandSurveyLaw", "base", "(LLandSurvey;IIII[J)I"⟩
theorem okL_base : yok yL_base 6 := by decide +kernel
abbrev cL_deep : ByteArray := method_5_code
def yL_deep : MethodName := ⟨"LandSurveyLaw", "deep", "(LLandSurvey;IIII[J)I"⟩
theorem okL_deep : yok yL_deep 6 := by decide +kernel
abbrev cL_habit : ByteArray := method_6_code
def yL_habit : MethodName := ⟨"LandSurveyLaw", "habit", "(LLandSurvey;I[J)I"⟩
theorem okL_habit : yok yL_habit 3 := by decide +kernel
theorem kw_1369 : Cond.classLink "LandSurvey" 166 "java/util/NoSuchElementException" ∈ uu := uu_in (i := 1369) (by decide +kernel) (by decide +kernel)
theorem kw_167 : Cond.initialized "java/util/NoSuchElementException" ∈ uu := uu_in (i := 167) (by decide +kernel) (by decide +kernel)
theorem kw_1368 : Cond.code yX11_look prog_1_method_15_code 4 (some .int) ∈ uu := uu_in (i := 1368) (by decide +kernel) (by decide +kernel)
theorem kw_1365 : Cond.methodLink "LandSurveyLaw" 7 yX11_look ∈ uu := uu_in (i := 1365) (by decide +kernel) (by decide +kernel)
theorem kw_1366 : Cond.instanceMethod yX11_look ∈ uu := uu_in (i := 1366) (by decide +kernel) (by decide +kernel)
theorem kw_1367 : Cond.selects "LandSurvey" yX11_look yX11_look ∈ uu := uu_in (i := 1367) (by decide +kernel) (by decide +kernel)
theorem kw_1364 : Cond.classLink "LandSurveyLaw" 13 "java/util/NoSuchElementException" ∈ uu := uu_in (i := 1364) (by decide +kernel) (by decide +kernel)
theorem kw_1440 : Cond.code yX11_base prog_1_method_20_code 7 (some .int) ∈ uu := uu_in (i := 1440) (by decide +kernel) (by decide +kernel)
theorem kw_1437 : Cond.methodLink "LandSurveyLaw" 15 yX11_base ∈ uu := uu_in (i := 1437) (by decide +kernel) (by decide +kernel)
theorem kw_1438 : Cond.instanceMethod yX11_base ∈ uu := uu_in (i := 1438) (by decide +kernel) (by decide +kernel)
theorem kw_1439 : Cond.selects "LandSurvey" yX11_base yX11_base ∈ uu := uu_in (i := 1439) (by decide +kernel) (by decide +kernel)
theorem kw_1447 : Cond.code yX11_deep prog_1_method_23_code 6 (some .int) ∈ uu := uu_in (i := 1447) (by decide +kernel) (by decide +kernel)
theorem kw_1444 : Cond.methodLink "LandSurveyLaw" 19 yX11_deep ∈ uu := uu_in (i := 1444) (by decide +kernel) (by decide +kernel)
theorem kw_1445 : Cond.instanceMethod yX11_deep ∈ uu := uu_in (i := 1445) (by decide +kernel) (by decide +kernel)
theorem kw_1446 : Cond.selects "LandSurvey" yX11_deep yX11_deep ∈ uu := uu_in (i := 1446) (by decide +kernel) (by decide +kernel)
theorem kw_1458 : Cond.code yX11_habit prog_1_method_31_code 6 (some .int) ∈ uu := uu_in (i := 1458) (by decide +kernel) (by decide +kernel)
theorem kw_1455 : Cond.methodLink "LandSurveyLaw" 22 yX11_habit ∈ uu := uu_in (i := 1455) (by decide +kernel) (by decide +kernel)
theorem kw_1456 : Cond.instanceMethod yX11_habit ∈ uu := uu_in (i := 1456) (by decide +kernel) (by decide +kernel)
theorem kw_1457 : Cond.selects "LandSurvey" yX11_habit yX11_habit ∈ uu := uu_in (i := 1457) (by decide +kernel) (by decide +kernel)
theorem dX11_look_0 : decode cX11_look 0 = .ok (.aload_n 0, 1) := by decide +kernel
theorem dX11_look_1 : decode cX11_look 1 = .ok (.iload_n 1, 1) := by decide +kernel
theorem dX11_look_2 : decode cX11_look 2 = .ok (.invokevirtual 108, 3) := by decide +kernel
theorem dX11_look_5 : decode cX11_look 5 = .ok (.ifCond .eq 13, 3) := by decide +kernel
theorem dX11_look_18 : decode cX11_look 18 = .ok (.new 166, 3) := by decide +kernel
theorem dX11_look_21 : decode cX11_look 21 = .ok (.dup, 1) := by decide +kernel
theorem dX11_look_22 : decode cX11_look 22 = .ok (.invokespecial 168, 3) := by decide +kernel
theorem dX11_look_25 : decode cX11_look 25 = .ok (.athrow, 1) := by decide +kernel
theorem dX11_base_0 : decode cX11_base 0 = .ok (.iload_n 2, 1) := by decide +kernel
theorem dX11_base_1 : decode cX11_base 1 = .ok (.iload_n 3, 1) := by decide +kernel
theorem dX11_base_2 : decode cX11_base 2 = .ok (.invokestatic 85, 3) := by decide +kernel
theorem dX11_base_5 : decode cX11_base 5 = .ok (.istore 5, 2) := by decide +kernel
theorem dX11_base_7 : decode cX11_base 7 = .ok (.iload 5, 2) := by decide +kernel
theorem dX11_base_9 : decode cX11_base 9 = .ok (.iconst (-1), 1) := by decide +kernel
theorem dX11_base_10 : decode cX11_base 10 = .ok (.if_icmp .eq 14, 3) := by decide +kernel
theorem dX11_base_24 : decode cX11_base 24 = .ok (.new 166, 3) := by decide +kernel
theorem dX11_base_27 : decode cX11_base 27 = .ok (.dup, 1) := by decide +kernel
theorem dX11_base_28 : decode cX11_base 28 = .ok (.invokespecial 168, 3) := by decide +kernel
theorem dX11_base_31 : decode cX11_base 31 = .ok (.athrow, 1) := by decide +kernel
theorem dX11_base_13 : decode cX11_base 13 = .ok (.iload 4, 2) := by decide +kernel
theorem dX11_base_15 : decode cX11_base 15 = .ok (.ifCond .lt 9, 3) := by decide +kernel
theorem dX11_base_18 : decode cX11_base 18 = .ok (.iload 4, 2) := by decide +kernel
theorem dX11_base_20 : decode cX11_base 20 = .ok (.iconst 1, 1) := by decide +kernel
theorem dX11_base_21 : decode cX11_base 21 = .ok (.if_icmp .le 11, 3) := by decide +kernel
theorem dX11_base_32 : decode cX11_base 32 = .ok (.aload_n 0, 1) := by decide +kernel
theorem dX11_base_33 : decode cX11_base 33 = .ok (.iload_n 1, 1) := by decide +kernel
theorem dX11_base_34 : decode cX11_base 34 = .ok (.invokevirtual 197, 3) := by decide +kernel
theorem dX11_base_37 : decode cX11_base 37 = .ok (.astore 6, 2) := by decide +kernel
theorem dX11_base_39 : decode cX11_base 39 = .ok (.aload 6, 2) := by decide +kernel
theorem dX11_base_41 : decode cX11_base 41 = .ok (.ifnull 11, 3) := by decide +kernel
theorem dX11_base_44 : decode cX11_base 44 = .ok (.aload 6, 2) := by decide +kernel
theorem dX11_base_46 : decode cX11_base 46 = .ok (.getfield 237, 3) := by decide +kernel
theorem dX11_base_49 : decode cX11_base 49 = .ok (.ifCond .ne 11, 3) := by decide +kernel
theorem dX11_base_52 : decode cX11_base 52 = .ok (.new 166, 3) := by decide +kernel
theorem dX11_base_55 : decode cX11_base 55 = .ok (.dup, 1) := by decide +kernel
theorem dX11_base_56 : decode cX11_base 56 = .ok (.invokespecial 168, 3) := by decide +kernel
theorem dX11_base_59 : decode cX11_base 59 = .ok (.athrow, 1) := by decide +kernel
theorem dX11_deep_0 : decode cX11_deep 0 = .ok (.iload_n 1, 1) := by decide +kernel
theorem dX11_deep_1 : decode cX11_deep 1 = .ok (.iload_n 2, 1) := by decide +kernel
theorem dX11_deep_2 : decode cX11_deep 2 = .ok (.invokestatic 85, 3) := by decide +kernel
theorem dX11_deep_5 : decode cX11_deep 5 = .ok (.istore 5, 2) := by decide +kernel
theorem dX11_deep_7 : decode cX11_deep 7 = .ok (.iload 5, 2) := by decide +kernel
theorem dX11_deep_9 : decode cX11_deep 9 = .ok (.iconst (-1), 1) := by decide +kernel
theorem dX11_deep_10 : decode cX11_deep 10 = .ok (.if_icmp .eq 36, 3) := by decide +kernel
theorem dX11_deep_46 : decode cX11_deep 46 = .ok (.new 166, 3) := by decide +kernel
theorem dX11_deep_49 : decode cX11_deep 49 = .ok (.dup, 1) := by decide +kernel
theorem dX11_deep_50 : decode cX11_deep 50 = .ok (.invokespecial 168, 3) := by decide +kernel
theorem dX11_deep_53 : decode cX11_deep 53 = .ok (.athrow, 1) := by decide +kernel
theorem dX11_deep_13 : decode cX11_deep 13 = .ok (.iload 4, 2) := by decide +kernel
theorem dX11_deep_15 : decode cX11_deep 15 = .ok (.ifCond .lt 31, 3) := by decide +kernel
theorem dX11_deep_18 : decode cX11_deep 18 = .ok (.iload 4, 2) := by decide +kernel
theorem dX11_deep_20 : decode cX11_deep 20 = .ok (.iconst 1, 1) := by decide +kernel
theorem dX11_deep_21 : decode cX11_deep 21 = .ok (.if_icmp .gt 25, 3) := by decide +kernel
theorem dX11_deep_24 : decode cX11_deep 24 = .ok (.aload_n 0, 1) := by decide +kernel
theorem dX11_deep_25 : decode cX11_deep 25 = .ok (.invokevirtual 253, 3) := by decide +kernel
theorem dX11_deep_28 : decode cX11_deep 28 = .ok (.ifCond .eq 18, 3) := by decide +kernel
theorem dX11_deep_31 : decode cX11_deep 31 = .ok (.aload_n 0, 1) := by decide +kernel
theorem dX11_deep_32 : decode cX11_deep 32 = .ok (.iload_n 3, 1) := by decide +kernel
theorem dX11_deep_33 : decode cX11_deep 33 = .ok (.invokevirtual 272, 3) := by decide +kernel
theorem dX11_deep_36 : decode cX11_deep 36 = .ok (.ifCond .eq 10, 3) := by decide +kernel
theorem dX11_habit_0 : decode cX11_habit 0 = .ok (.iload_n 1, 1) := by decide +kernel
theorem dX11_habit_1 : decode cX11_habit 1 = .ok (.invokestatic 315, 3) := by decide +kernel
theorem dX11_habit_4 : decode cX11_habit 4 = .ok (.ifCond .ne 11, 3) := by decide +kernel
theorem dX11_habit_15 : decode cX11_habit 15 = .ok (.aload_n 0, 1) := by decide +kernel
theorem dX11_habit_16 : decode cX11_habit 16 = .ok (.invokevirtual 169, 3) := by decide +kernel
theorem dX11_habit_19 : decode cX11_habit 19 = .ok (.iconst 0, 1) := by decide +kernel
theorem dX11_habit_20 : decode cX11_habit 20 = .ok (.istore_n 2, 1) := by decide +kernel
theorem dX11_habit_21 : decode cX11_habit 21 = .ok (.iconst 0, 1) := by decide +kernel
theorem dX11_habit_22 : decode cX11_habit 22 = .ok (.istore_n 3, 1) := by decide +kernel
theorem dX11_habit_23 : decode cX11_habit 23 = .ok (.iconst 0, 1) := by decide +kernel
theorem dX11_habit_24 : decode cX11_habit 24 = .ok (.istore 4, 2) := by decide +kernel
theorem dX11_habit_26 : decode cX11_habit 26 = .ok (.iload 4, 2) := by decide +kernel
theorem dX11_habit_28 : decode cX11_habit 28 = .ok (.aload_n 0, 1) := by decide +kernel
theorem dX11_habit_29 : decode cX11_habit 29 = .ok (.getfield 102, 3) := by decide +kernel
theorem dX11_habit_32 : decode cX11_habit 32 = .ok (.if_icmp .ge 102, 3) := by decide +kernel
theorem dX11_habit_134 : decode cX11_habit 134 = .ok (.iload_n 2, 1) := by decide +kernel
theorem dX11_habit_135 : decode cX11_habit 135 = .ok (.iconst 3, 1) := by decide +kernel
theorem dX11_habit_136 : decode cX11_habit 136 = .ok (.if_icmp .lt 13, 3) := by decide +kernel
theorem dX11_habit_149 : decode cX11_habit 149 = .ok (.iconst 0, 1) := by decide +kernel
theorem dX11_habit_150 : decode cX11_habit 150 = .ok (.ireturn, 1) := by decide +kernel
theorem dX11_habit_7 : decode cX11_habit 7 = .ok (.new 166, 3) := by decide +kernel
theorem dX11_habit_10 : decode cX11_habit 10 = .ok (.dup, 1) := by decide +kernel
theorem dX11_habit_11 : decode cX11_habit 11 = .ok (.invokespecial 168, 3) := by decide +kernel
theorem dX11_habit_14 : decode cX11_habit 14 = .ok (.athrow, 1) := by decide +kernel
theorem dL_look_0 : decode cL_look 0 = .ok (.aload_n 3, 1) := by decide +kernel
theorem dL_look_1 : decode cL_look 1 = .ok (.iconst 0, 1) := by decide +kernel
theorem dL_look_2 : decode cL_look 2 = .ok (.aload_n 0, 1) := by decide +kernel
theorem dL_look_3 : decode cL_look 3 = .ok (.iload_n 1, 1) := by decide +kernel
theorem dL_look_4 : decode cL_look 4 = .ok (.iload_n 2, 1) := by decide +kernel
theorem dL_look_5 : decode cL_look 5 = .ok (.invokevirtual 7, 3) := by decide +kernel
theorem dL_look_13 : decode cL_look 13 = .ok (.astore 4, 2) := by decide +kernel
theorem dL_look_15 : decode cL_look 15 = .ok (.iconst 1, 1) := by decide +kernel
theorem dL_look_16 : decode cL_look 16 = .ok (.ireturn, 1) := by decide +kernel
theorem dL_base_0 : decode cL_base 0 = .ok (.aload 5, 2) := by decide +kernel
theorem dL_base_2 : decode cL_base 2 = .ok (.iconst 0, 1) := by decide +kernel
theorem dL_base_3 : decode cL_base 3 = .ok (.aload_n 0, 1) := by decide +kernel
theorem dL_base_4 : decode cL_base 4 = .ok (.iload_n 1, 1) := by decide +kernel
theorem dL_base_5 : decode cL_base 5 = .ok (.iload_n 2, 1) := by decide +kernel
theorem dL_base_6 : decode cL_base 6 = .ok (.iload_n 3, 1) := by decide +kernel
theorem dL_base_7 : decode cL_base 7 = .ok (.iload 4, 2) := by decide +kernel
theorem dL_base_9 : decode cL_base 9 = .ok (.invokevirtual 15, 3) := by decide +kernel
theorem dL_base_17 : decode cL_base 17 = .ok (.astore 6, 2) := by decide +kernel
theorem dL_base_19 : decode cL_base 19 = .ok (.iconst 1, 1) := by decide +kernel
theorem dL_base_20 : decode cL_base 20 = .ok (.ireturn, 1) := by decide +kernel
theorem dL_deep_0 : decode cL_deep 0 = .ok (.aload 5, 2) := by decide +kernel
theorem dL_deep_2 : decode cL_deep 2 = .ok (.iconst 0, 1) := by decide +kernel
theorem dL_deep_3 : decode cL_deep 3 = .ok (.aload_n 0, 1) := by decide +kernel
theorem dL_deep_4 : decode cL_deep 4 = .ok (.iload_n 1, 1) := by decide +kernel
theorem dL_deep_5 : decode cL_deep 5 = .ok (.iload_n 2, 1) := by decide +kernel
theorem dL_deep_6 : decode cL_deep 6 = .ok (.iload_n 3, 1) := by decide +kernel
theorem dL_deep_7 : decode cL_deep 7 = .ok (.iload 4, 2) := by decide +kernel
theorem dL_deep_9 : decode cL_deep 9 = .ok (.invokevirtual 19, 3) := by decide +kernel
theorem dL_deep_17 : decode cL_deep 17 = .ok (.astore 6, 2) := by decide +kernel
theorem dL_deep_19 : decode cL_deep 19 = .ok (.iconst 1, 1) := by decide +kernel
theorem dL_deep_20 : decode cL_deep 20 = .ok (.ireturn, 1) := by decide +kernel
theorem dL_habit_0 : decode cL_habit 0 = .ok (.aload_n 2, 1) := by decide +kernel
theorem dL_habit_1 : decode cL_habit 1 = .ok (.iconst 0, 1) := by decide +kernel
theorem dL_habit_2 : decode cL_habit 2 = .ok (.aload_n 0, 1) := by decide +kernel
theorem dL_habit_3 : decode cL_habit 3 = .ok (.iload_n 1, 1) := by decide +kernel
theorem dL_habit_4 : decode cL_habit 4 = .ok (.invokevirtual 22, 3) := by decide +kernel
theorem dL_habit_12 : decode cL_habit 12 = .ok (.astore_n 3, 1) := by decide +kernel
theorem dL_habit_13 : decode cL_habit 13 = .ok (.iconst 1, 1) := by decide +kernel
theorem dL_habit_14 : decode cL_habit 14 = .ok (.ireturn, 1) := by decide +kernel
theorem dL_habit_7 : decode cL_habit 7 = .ok (.i2l, 1) := by decide +kernel
theorem dL_habit_8 : decode cL_habit 8 = .ok (.lastore, 1) := by decide +kernel
theorem dL_habit_9 : decode cL_habit 9 = .ok (.goto 6, 3) := by decide +kernel
theorem dL_habit_15 : decode cL_habit 15 = .ok (.iconst 0, 1) := by decide +kernel
theorem dL_habit_16 : decode cL_habit 16 = .ok (.ireturn, 1) := by decide +kernel
/-! THROWS: contracts of methods that return or throw NoSuchElementException, and of methods that catch it -/
def nsee : String := "java/util/NoSuchElementException"
def Ey (U : State) : Prop := va_Nw (.castable nsee nsee) U ∧ va_Nw (.declares ⟨"java/lang/RuntimeException", "<init>", "()V"⟩) U ∧ va_Nw (.declares ⟨"java/lang/Exception", "<init>", "()V"⟩) U ∧ va_Nw (.declares ⟨"java/lang/Throwable", "<init>", "()V"⟩) U
theorem Ey.warm {s U : State} (hW : s.WarmedH U.vm) (h : Ey s) : Ey U := ⟨h.1.warmC hW, h.2.1.warmD hW, h.2.2.1.warmD hW, h.2.2.2.warmD hW⟩
theorem Ey.same {U V : State} (h : U.vm = V.vm) (hE : Ey U) : Ey V := ⟨va_Nw.same rfl h hE.1, va_Nw.same rfl h hE.2.1, va_Nw.same rfl h hE.2.2.1, va_Nw.same rfl h hE.2.2.2⟩
def Zs (A : Nat → Prop) (U : State) (H : Heap) : Prop := vx_Zq Bundle.tN "UNASSIGNED_STACK" Bundle.steD A U H ∧ vx_Zq Bundle.tN "SUPPRESSED_SENTINEL" Bundle.listD A U H
theorem Zs.moved {A : Nat → Prop} {u U : State} {H : Heap} (hvm : u.vm.Alike U.vm) (h : Zs A u H) : Zs A U H := ⟨h.1.moved hvm, h.2.moved hvm⟩
theorem Zs.kept {A : Nat → Prop} {U : State} {H H1 : Heap} (h : Zs A U H) (hq : ∀ a : Nat, a < H.size → ¬ A a → H1[a]? = H[a]?) : Zs A U H1 := ⟨h.1.kept hq, h.2.kept hq⟩
theorem Zs.narrow {A B : Nat → Prop} {U : State} {H : Heap} (h : Zs A U H) (hAB : ∀ q, B q → A q) : Zs B U H := ⟨h.1.narrow hAB, h.2.narrow hAB⟩
def IX (D : va_G) (cy : Nat → ClassId) (sz : Nat) (ws : va_W) (U : State) : Prop := Inv D cy sz ws U ∧ Ey U ∧ Zs (va_A ws sz) U U.heap
theorem ix_blind {av : List Value} {D : va_G} {cy : Nat → ClassId} {sz : Nat} {ws : va_W} : FrameBlind (va_Pc av (IX D cy sz ws)) := fun a U g mk q => by
  obtain ⟨q0, hI, hE, hZ⟩ := q
  exact ⟨q0, (inv_blind (av := av) a U g mk ⟨q0, hI⟩).2, Ey.same (V := U.calling g mk a) rfl hE, Zs.moved (U := U.calling g mk a) (Vm.Alike.refl U.vm) hZ⟩
abbrev XQ (A : Nat → Prop) (post : Int32 → Prop) : Array Value → State → Outcome → State → Prop := va_Qi (fun v (_ : Unit) => post v) (fun _ _ => True) A
abbrev XX (A : Nat → Prop) (px : Prop) : String → State → State → Prop := vx_X (fun _ : Unit => px) (fun E _ _ => E = nsee) A
def XI (l : Launch) (D : va_G) (cy : Nat → ClassId) (y : MethodName) (b : ByteArray) (n : Nat) (r : Option FieldType) (fr lo mc ms : Nat) (av : List Value) (ws : va_W) (post : Int32 → Prop) (px : Prop) : Prop :=
  ∀ sz, vx_Met l y (wU y b n r) (rmm fr lo mc ms) (va_Pc av (IX D cy sz ws)) (XQ (va_A ws sz) post) (XX (va_A ws sz) px) mc ms (va_A ws sz)
def wW (y : MethodName) (b : ByteArray) (n : Nat) (r : Option FieldType) (hh : List (Nat × Nat × Nat × Nat)) : List Cond := .codeWith y b n r hh :: uu
def CW (l : Launch) (D : va_G) (cy : Nat → ClassId) (y : MethodName) (b : ByteArray) (n : Nat) (r : Option FieldType) (hh : List (Nat × Nat × Nat × Nat)) (fr lo mc ms : Nat) (av : List Value) (ws : va_W) {S : Type} (post : Int32 → S → Prop) (w1 : S → va_W) : Prop :=
  ∀ sz, Met l y (wW y b n r hh) (rmm fr lo mc ms) (va_Pc av (IX D cy sz ws)) (va_Qi post (Bw D cy (va_A ws sz) w1) (va_A ws sz)) mc ms (va_A ws sz)
theorem gLW {y : MethodName} {b : ByteArray} {n : Nat} {r : Option FieldType} {hh : List (Nat × Nat × Nat × Nat)} {l : List Cond} (h : Cond.codeWith y b n r hh ∈ uu) (hl : ∀ w ∈ l, w ∈ uu) : GoodIn uu (l ++ wW y b n r hh) := by
  have g : ∀ w, w ∈ uu → w ∈ uu ∧ ((w.onTables && w.keeps) = true ∨ ∃ ty, w = .arrayClass ty) := fun w hw => ⟨hw, good_of_word (List.mem_filter.mp hw).2⟩
  intro w hw
  rcases List.mem_append.mp hw with hw | hw
  · exact g w (hl w hw)
  · rcases List.mem_cons.mp hw with rfl | hw
    · exact g _ h
    · exact g w hw
abbrev nms : List String := ["java/lang/RuntimeException", "java/lang/Exception"]
theorem x_in : ∀ w ∈ (vx_at0 "LandSurvey" 168 nsee nms).filter goodWord, w ∈ lw_tbl := by decide +kernel
theorem x_out : ∀ w ∈ (vx_at0 "LandSurvey" 168 nsee nms).filter (fun w => !goodWord w), w ∈ [Cond.castable nsee nsee, Cond.declares ⟨"java/lang/RuntimeException", "<init>", "()V"⟩, Cond.declares ⟨"java/lang/Exception", "<init>", "()V"⟩, Cond.declares ⟨"java/lang/Throwable", "<init>", "()V"⟩] := by decide +kernel
theorem x_good : ∀ w ∈ Cond.classLink "LandSurvey" 166 nsee :: Cond.initialized nsee :: vx_at0 "LandSurvey" 168 nsee nms, vx_ot w = true := by decide +kernel
theorem x_hat {args : Array Value} {s : State} (hts : ∀ w ∈ uu, w.before args s = true) (hE : Ey s) : ∀ w ∈ vx_at0 "LandSurvey" 168 nsee nms, w.before args s = true :=
  vx_hat (fun w hw => hts w (List.mem_filter.mpr ⟨x_in w hw, (List.mem_filter.mp hw).2⟩)) x_out (vx_c (va_Nw.use rfl hE.1) (vx_c (va_Nw.use rfl hE.2.1) (vx_c (va_Nw.use rfl hE.2.2.1) (vx_c (va_Nw.use rfl hE.2.2.2) vx_n))))
section XA
variable {l : Launch} {D : va_G} {cy : Nat → ClassId} {y : MethodName} {b : ByteArray} {n : Nat} {r : Option FieldType} {fr lo mc ms : Nat} {av : List Value} {ws : va_W}
theorem xi_go {post : Int32 → Prop} {px : Prop} (hy : plainName y.cls = true) (hlen : (lg_sl av).length ≤ n)
    (body : ∀ (p : Program) (e : Env) (s : State) (m : MethodId) (below : List Frame) (meth : Method) (c : Code) (ls : Array Slot) (A : Nat → Prop), (∀ q : Nat, s.heap.size ≤ q → A q) → CallFix p m c b n s av.toArray uu y.cls → meth.sig.returnType = r → meth.locks = false → (∀ x ∈ c.exceptionTable.toList, False) → va_P D vwCl ws s.heap → KX D cy s → va_D A ws → Ey s → Zs A s s.heap → lv_has ls n (lv_args 0 av) →
      W p l e (rmm fr lo mc ms) s m av.toArray below meth c s.heap [] 0 0 (vx_MQ below (XQ A post) (XX A px) av.toArray s mc ms A) (F0 m 0 ls [])) : XI l D cy y b n r fr lo mc ms av ws post px := by
  intro sz
  refine vx_ofW (cc := b) (maxL := n) (ret := r) hy rfl ?_
  intro p e s m args below meth c s₁ B hml hT hv
  obtain ⟨rfl, ⟨hsz, hP, hK, hD0⟩, hE, hZ⟩ := hv
  have hts := atoms_spec (ws := wU y b n r) B.pre
  have hown : s.vm.findClass y.cls = some m.cls := findClass_of_methodNamed B.named
  have hl := lv_entry av (n := n) hlen
  rw [lg_entry_eq]
  subst hsz
  exact body p e s m below meth c _ (va_A ws s.heap.size) (fun _ h => Or.inr h) ⟨B.exec, B.bytes, hml, hown, fun w h => hts w (List.mem_cons_of_mem _ h)⟩ B.returns B.notSynchronized hT hP hK (hD0.self (sz := s.heap.size)) hE hZ hl
theorem cw_go {hh : List (Nat × Nat × Nat × Nat)} {S : Type} {post : Int32 → S → Prop} {w1 : S → va_W} (hy : plainName y.cls = true) (hlen : (lg_sl av).length ≤ n)
    (body : ∀ (p : Program) (e : Env) (s : State) (m : MethodId) (below : List Frame) (meth : Method) (c : Code) (ls : Array Slot) (A : Nat → Prop), (∀ q : Nat, s.heap.size ≤ q → A q) → CallFix p m c b n s av.toArray uu y.cls → meth.sig.returnType = r → meth.locks = false → c.exceptionTable.toList = tableOf hh → va_P D vwCl ws s.heap → KX D cy s → va_D A ws → Ey s → Zs A s s.heap → lv_has ls n (lv_args 0 av) →
      W p l e (rmm fr lo mc ms) s m av.toArray below meth c s.heap [] 0 0 (MQ below (va_Qi post (Bw D cy A w1) A) av.toArray s mc ms A) (F0 m 0 ls [])) : CW l D cy y b n r hh fr lo mc ms av ws post w1 := by
  intro sz
  refine va_MetW (cc := b) (maxL := n) (ret := r) (hh := hh) hy rfl ?_
  intro p e s m args below meth c s₁ B hml hv
  obtain ⟨rfl, ⟨hsz, hP, hK, hD0⟩, hE, hZ⟩ := hv
  have hts := atoms_spec (ws := wW y b n r hh) B.pre
  have hown : s.vm.findClass y.cls = some m.cls := findClass_of_methodNamed B.named
  have hTab := vx_table (x := y) B (hts _ List.mem_cons_self)
  have hl := lv_entry av (n := n) hlen
  rw [lg_entry_eq]
  subst hsz
  exact body p e s m below meth c _ (va_A ws s.heap.size) (fun _ h => Or.inr h) ⟨B.exec, B.bytes, hml, hown, fun w h => hts w (List.mem_cons_of_mem _ h)⟩ B.returns B.notSynchronized hTab hP hK (hD0.self (sz := s.heap.size)) hE hZ hl
end XA
section XB
variable {p : Program} {l : Launch} {e : Env} {R : Room} {s : State} {m : MethodId} {args : Array Value} {below : List Frame} {meth : Method} {c : Code} {H : Heap} {locs : List Loc} {cells slots : Nat} {Q : State → Prop}
variable {D : va_G} {cy : Nat → ClassId} {cc : ByteArray} {nL : Nat} {own : String} {pc : Nat} {ls : Array Slot} {mc ms : Nat} {A : Nat → Prop}
variable {y : MethodName} {b : ByteArray} {n : Nat} {r : Option FieldType} {fr lo : Nat} {wc wr ws : va_W} {As rest st : List Value} {idx k a : Nat} {post : Int32 → Prop} {px : Prop}
theorem x_ret {ty : FieldType} {v : Int32} {XC : String → State → State → Prop} (S : CallFix p m c cc nL s args uu own) (hr : meth.sig.returnType = some ty) (hlk : meth.locks = false) (hn : narrow ty (.int v) = .int v) (hS : va_S A s.heap H locs) (hp : post v) (hc : cells ≤ mc) (hs : slots ≤ ms) (d : decode cc pc = .ok (.ireturn, 1)) :
    W p l e R s m args below meth c H locs cells slots (vx_MQ below (XQ A post) XC args s mc ms A) (F0 m pc ls [.int v]) := by
  refine W.widen hc hs (vx_ret ?_)
  exact W.zret S.1 S.2.1 hr hn (fun t ht _ => ⟨⟨v, (), rfl, hp, trivial⟩, hS.F ht⟩) hS.2.2 d hlk
theorem x_throw {Qc : Array Value → State → Outcome → State → Prop} (hst : l.stackTraces = false) (S : CallFix p m c cc nL s args uu "LandSurvey") (v1 : Cond.classLink "LandSurvey" 166 nsee ∈ uu) (v2 : Cond.initialized nsee ∈ uu) (hT : ∀ x ∈ c.exceptionTable.toList, False) (hlk : meth.locks = false) (hE : Ey s) (hZ : Zs A s s.heap) (hS : va_S A s.heap H locs) (hls : ls.size = nL)
    (d0 : decode cc pc = .ok (.new 166, 3)) (d3 : decode cc (pc + 3) = .ok (.dup, 1)) (d4 : decode cc (pc + 4) = .ok (.invokespecial 168, 3)) (d7 : decode cc (pc + 7) = .ok (.athrow, 1)) (hpx : px)
    (hf : 5 < R.frames) (hlo : (rest.map fun v => v.category).sum + 81 ≤ R.locals) (hc1 : cells + 1 ≤ R.cells) (hs1 : slots + 6 ≤ R.slots) (hc : cells + 1 ≤ mc) (hs : slots + 6 ≤ ms) :
    W p l e R s m args below meth c H locs cells slots (vx_MQ below Qc (XX A px) args s mc ms A) (F0 m pc ls rest) := by
  have hts := S.2.2.2.2
  exact vx_throw0 (own := "LandSurvey") (cls := nsee) (names := nms) (A := A) S.1 S.2.1 hst S.2.2.2.1 (by decide +kernel) (by decide +kernel) (hts _ v1) (hts _ v2) (x_hat hts hE) x_good hZ.1 hZ.2 hS (hls.trans S.2.2.1.symm) d0 d3 d4 d7 (fun x hx => absurd (hT x hx) id) hf hlo hc1 hs1 hlk
    (fun t _ h1 h2 => ⟨(), hpx, rfl, Nat.le_trans hS.1 h1, fun q hq hA => (h2 q (Nat.lt_of_lt_of_le hq hS.1)).trans (hS.2.1 q hq hA)⟩) hS.2.2 hc hs
theorem runV_X (S : CallFix p m c cc nL s args uu own) (hM : XI l D cy y b n r fr lo mc ms (.ref a :: As) wc post px) (hK : KX D cy s) (hP : va_P D vwCl ws H) (hD : va_D A ws) (hS : va_S A s.heap H locs) (hA : ∀ q : Nat, s.heap.size ≤ q → A q) (hE : Ey s) (hZ : Zs A s s.heap) (isC : List Nat) (hnd : va_nd isC = true) (hC : isC.map (fun i => ws[i]?) = wc.map some)
    (q0 ci : Nat) {fs : List Value} {T : u_T} {N : Nat} (he : wc[q0]? = some (a, .inr (ci, fs))) (hci : vwCl[ci]? = some (y.cls, T, N)) (v1 : Cond.methodLink own idx y ∈ uu) (v2 : Cond.instanceMethod y ∈ uu) (v3 : Cond.selects y.cls y y ∈ uu) (v4 : Cond.initialized y.cls ∈ uu) (v5 : Cond.code y b n r ∈ uu) (hy : yok y k) (hk : As.length = k)
    (hR : fr + 1 ≤ R.frames ∧ 8 + (n + 11) + lo ≤ R.locals) (hls : ls.size = nL) (hst : st = As.reverse ++ .ref a :: rest) (hcat : (rest.map fun v => v.category).sum ≤ 8) (d : decode cc pc = .ok (.invokevirtual idx, 3)) (hf : cells + mc ≤ R.cells ∧ slots + ms ≤ R.slots) :
    vx_Run p l e R s m args below meth c H locs cells slots mc ms (F0 m pc ls st) rest (XQ (va_A wc H.size) post (Value.ref a :: As).toArray) (XX (va_A wc H.size) px) (va_A wc H.size) := by
  have hPc := hP.sub (ws' := wc) isC (fm_of hC)
  have hDc := hD.sub (ws' := wc) isC hnd hC
  have hFc := va_free hD hS hA isC hC
  exact vx_runV (Ts := uu) (own := own) (C := y.cls) S (hM H.size) (cwV k S.2.2.2.2 (gL v5 (fun w h => by simp only [List.mem_cons, List.not_mem_nil, or_false] at h; rcases h with rfl | rfl | rfl | rfl <;> assumption)) rfl rfl rfl ⟨rfl, hy⟩ hR) ⟨ix_blind, va_recv hK.1 hPc hci he, fun U hU hW => ⟨rfl, ⟨by rw [hU], by rw [hU]; exact hPc, KX.warm hW hK, hDc.weaken (fun _ _ _ _ => trivial)⟩, hE.warm hW, by rw [hU]; exact ((hZ.kept hS.2.1).narrow hFc).moved hW.alike⟩⟩ rfl hk hls hst (lv_room hcat) d hf
theorem call_x {av : Array Value} (hr : vx_Run p l e R s m args below meth c H locs cells slots mc ms (F0 m pc ls st) rest (XQ (va_A wc H.size) post av) (XX (va_A wc H.size) px) (va_A wc H.size)) (hP : va_P D vwCl ws H) (hD : va_D A ws) (hS : va_S A s.heap H locs) (hA : ∀ q : Nat, s.heap.size ≤ q → A q) (isC isR : List Nat) (hC : isC.map (fun i => ws[i]?) = wc.map some) (hR : isR.map (fun i => ws[i]?) = wr.map some) (hn : va_nd isR = true) (hdis : ∀ i ∈ isR, i ∉ isC)
    (kx : ∀ (ce : Cell) (q9 : Addr) (H1 : Heap) (locs1 : List Loc), px → va_P D vwCl wr H1 → va_D A wr → va_S A s.heap H1 locs1 → H1[q9]? = some ce → ce.vm = .none → s.vm.findClass nsee = some ce.cls → vx_W p l e R s m args below meth c H1 locs1 (cells + mc) (slots + ms) Q (F0 m pc ls rest) q9)
    (kk : ∀ (v : Int32) (H1 : Heap) (locs1 : List Loc), post v → va_P D vwCl wr H1 → va_D A wr → va_S A s.heap H1 locs1 → W p l e R s m args below meth c H1 locs1 (cells + mc) (slots + ms) Q (F0 m (pc + 3) ls (.int v :: rest))) : W p l e R s m args below meth c H locs cells slots Q (F0 m pc ls st) := by
  have hFc := va_free hD hS hA isC hC
  have hj : ∀ (H1 : Heap), (∀ q : Nat, q < H.size → ¬ va_A wc H.size q → H1[q]? = H[q]?) → va_P D vwCl wr H1 ∧ va_D A wr := by
    intro H1 h1
    have h2 := va_join (w1 := []) hP hD isC isR hC hR hn hdis h1 hFc (fun k q h => by simp at h) ⟨fun i j p q h => by simp at h, fun k q h => by simp at h⟩
    rw [List.append_nil] at h2
    exact h2
  refine vx_calli hr hS (fun q _ h => hFc q h) hFc (fun q _ h => hFc q h) (fun E ce q9 u t H1 locs1 ht hvm hpx hB hz hk hS1 hce hcv hcl => ?_) (fun v u t H1 locs1 ht hvm hw hB hz hk hS1 => ?_)
  · subst hB
    exact kx ce q9 H1 locs1 hpx (hj H1 hk).1 (hj H1 hk).2 hS1 hce hcv hcl
  · exact kk v H1 locs1 hw (hj H1 hk).1 (hj H1 hk).2 hS1
theorem x_catch {q9 : Addr} {ce : Cell} {a0 a1 a2 : Nat} (S : CallFix p m c cc nL s args uu own) (hTab : c.exceptionTable.toList = tableOf [(a0, a1, a2, 13)]) (hcov : a0 ≤ pc ∧ pc < a1) (v1 : Cond.classLink own 13 nsee ∈ uu) (hE : Ey s) (hce : H[q9]? = some ce) (hcv : ce.vm = .none) (hcl : s.vm.findClass nsee = some ce.cls)
    (kk : W p l e R s m args below meth c H locs cells slots Q (F0 m a2 ls [.ref q9])) : vx_W p l e R s m args below meth c H locs cells slots Q (F0 m pc ls rest) q9 := by
  refine vx_catch (own := own) (name := nsee) (E := nsee) S.2.2.2.1 [] ⟨a0, a1, a2, 13⟩ [] (hTab.trans rfl) (fun z h => by cases h) ?_ (show (13 : Nat) ≠ 0 from by decide) (S.2.2.2.2 _ v1) (va_Nw.use rfl hE.1) hce hcv hcl kk
  simp [covers, hcov.1, hcov.2]
theorem runS_W {hh : List (Nat × Nat × Nat × Nat)} {Qc : Nat → Array Value → State → Outcome → State → Prop} (S : CallFix p m c cc nL s args uu own) (hM : ∀ sz, Met l y (wW y b n r hh) (rmm fr lo mc ms) (va_Pc As (IX D cy sz wc)) (Qc sz) mc ms (va_A wc sz)) (hK : KX D cy s) (hP : va_P D vwCl ws H) (hD : va_D A ws) (hS : va_S A s.heap H locs) (hA : ∀ q : Nat, s.heap.size ≤ q → A q) (hE : Ey s) (hZ : Zs A s s.heap) (isC : List Nat) (hnd : va_nd isC = true) (hC : isC.map (fun i => ws[i]?) = wc.map some)
    (v1 : Cond.methodLink own idx y ∈ uu) (v2 : Cond.static y ∈ uu) (v4 : Cond.initialized y.cls ∈ uu) (v5 : Cond.codeWith y b n r hh ∈ uu) (hy : yok y k) (hk : As.length = k) (hR : fr + 1 ≤ R.frames ∧ 8 + (n + 11) + lo ≤ R.locals) (hls : ls.size = nL) (hst : st = As.reverse ++ rest) (hcat : (rest.map fun v => v.category).sum ≤ 8) (d : decode cc pc = .ok (.invokestatic idx, 3)) (hf : cells + mc ≤ R.cells ∧ slots + ms ≤ R.slots) :
    va_Run p l e R s m args below meth c H locs cells slots mc ms (F0 m pc ls st) rest (Qc H.size As.toArray) (va_A wc H.size) := by
  have hPc := hP.sub (ws' := wc) isC (fm_of hC)
  have hDc := hD.sub (ws' := wc) isC hnd hC
  have hFc := va_free hD hS hA isC hC
  exact vx_runSW (Ts := uu) (own := own) (hh := hh) (bytes := b) (maxL := n) (ret := r) S (hM H.size) (vx_cwSW k S.2.2.2.2 (gLW v5 (fun w h => by simp only [List.mem_cons, List.not_mem_nil, or_false] at h; rcases h with rfl | rfl | rfl <;> assumption)) rfl rfl rfl hy hR) ⟨ix_blind, fun U hU hW => ⟨rfl, ⟨by rw [hU], by rw [hU]; exact hPc, KX.warm hW hK, hDc.weaken (fun _ _ _ _ => trivial)⟩, hE.warm hW, by rw [hU]; exact ((hZ.kept hS.2.1).narrow hFc).moved hW.alike⟩⟩ rfl hk hls hst (lv_room hcat) d hf
end XB
theorem ty_prim {args : Array Value} {s : State} {ty : FieldType} (h : (Cond.arrayClass ty).before args s = true) : ∃ cA : ClassId, ArrOfT s cA ty ∧ s.vm.findClass ("[" ++ ty.toString) = some cA := by
  obtain ⟨c, k, comp, h1, h2, h3⟩ := Cond.arrayClass_spec h
  exact ⟨c, fun n z => ⟨fun k h => (by cases h), k, h2, comp, h3⟩, h1⟩
theorem ty_obj {args : Array Value} {s : State} {C : String} (h : (Cond.arrayOver (.object C)).before args s = true) : ∃ cA : ClassId, ArrOfT s cA (.object C) ∧ va_RA s cA (.object C) := by
  obtain ⟨comp, c, k, h1, h2, h3, h4, h5⟩ := Cond.arrayOver_spec h
  exact ⟨c, fun n z => ⟨fun k h => (by cases h), k, h3, comp, h4⟩, k, comp, h3, h4, h1, h5⟩

set_option maxHeartbeats 4000000 in
set_option maxRecDepth 100000 in
theorem kX11_look (l : Launch) (D : va_G) (cy : Nat → ClassId) (x : Nat → Nat) (p0 : Int32) (p1 : Int32) (z0 : Int) (h0 : p0.toInt = z0) (z1 : Int) (h1 : p1.toInt = z1) (hst : l.stackTraces = false) : XI l D cy yX11_look cX11_look 4 (some .int) 6 100 1 6 [.ref (x 0), .int p0, .int p1] [((x 0), .inr (10, [.int 0, .int (-1), .ref (x 1), .ref (x 9), .int 0, .ref (x 10), .ref (x 13), .ref (x 16), .ref (x 29), .int 0, .int 0, .ref (x 30), .int 0, .ref (x 31), .ref (x 42), .int 0, .int 0, .null, .ref (x 43)]))] (fun v : Int32 => False) (True) := by
  refine xi_go (by decide) (Nat.le_of_ble_eq_true rfl) (fun p e s m below meth c ls A hA S hr hlk hT hP hK hD hE hZ hl => ?_)
  have hS : va_S A s.heap s.heap [] := va_S.rf
  have hl : lv_has ls 4 [(0, .ref (x 0)), (1, .int p0), (2, .int p1)] := hl
  refine lv_aload_n S.1 S.2.1 dX11_look_0 rfl (lv_at hl 0 rfl) ?_
  refine lv_iload_n S.1 S.2.1 dX11_look_1 rfl (lv_at hl 1 rfl) ?_
  refine call_ri (runV_R (wc := [((x 0), .inr (10, [.int 0, .int (-1), .ref (x 1), .ref (x 9), .int 0, .ref (x 10), .ref (x 13), .ref (x 16), .ref (x 29), .int 0, .int 0, .ref (x 30), .int 0, .ref (x 31), .ref (x 42), .int 0, .int 0, .null, .ref (x 43)]))]) (As := [.int p0]) (rest := []) S (kX11_isSight l D cy x p0 z0 h0) hK hP [0] rfl 0 10 rfl rfl kw_640 kw_642 kw_0 kw_144 kw_643 okX11_isSight rfl (by decide) hl.1 rfl (Nat.le_of_ble_eq_true rfl) dX11_look_2 (by decide)) (fun v2 w2 => ?_)
  subst w2
  refine r_if_eq S 0 rfl dX11_look_5 (tgt := 18) (by decide) (fun _ => ?_) (fun c => absurd c (by decide))
  exact x_throw hst S kw_1369 kw_167 hT hlk hE hZ hS hl.1 dX11_look_18 dX11_look_21 dX11_look_22 dX11_look_25 (trivial) (by decide) (Nat.le_of_ble_eq_true rfl) (by decide) (by decide) (by decide) (by decide)
set_option maxHeartbeats 4000000 in
set_option maxRecDepth 100000 in
theorem kX11_base (l : Launch) (D : va_G) (cy : Nat → ClassId) (x : Nat → Nat) (p0 : Int32) (p1 : Int32) (p2 : Int32) (p3 : Int32) (z0 : Int) (h0 : p0.toInt = z0) (z1 : Int) (h1 : p1.toInt = z1) (z2 : Int) (h2 : p2.toInt = z2) (z3 : Int) (h3 : p3.toInt = z3) (hst : l.stackTraces = false) : XI l D cy yX11_base cX11_base 7 (some .int) 7 177 4 207 [.ref (x 0), .int p0, .int p1, .int p2, .int p3] [((x 0), .inr (10, [.int 0, .int (-1), .ref (x 1), .ref (x 9), .int 0, .ref (x 10), .ref (x 13), .ref (x 16), .ref (x 29), .int 0, .int 0, .ref (x 30), .int 0, .ref (x 31), .ref (x 42), .int 0, .int 0, .null, .ref (x 43)])), ((x 13), .inr (4, [.ref (x 14), .ref (x 15), .int 0, .ref (x 16)])), ((x 16), .inr (5, [.int 0, .ref (x 17), .ref (x 18), .ref (x 19), .ref (x 20), .ref (x 21), .int 0, .int 10, .int 20, .int 0, .int 0, .ref (x 22), .ref (x 23), .int 0, .ref (x 24), .ref (x 25), .ref (x 26), .ref (x 27), .ref (x 28)])), ((x 42), .inl (cy 7, 16, .inr (.inr (.inr (.inr (fun _ => none)))))), ((x 31), .inr (6, [.ref (x 32), .ref (x 9), .ref (x 29), .int 0, .int 0, .int 0, .ref (x 36), .ref (x 37), .ref (x 38), .ref (x 39), .ref (x 40), .ref (x 41), .int 0])), ((x 32), .inr (9, [.ref (x 33), .ref (x 34), .ref (x 35), .int 0])), ((x 33), .inl (cy 0, 384, .inl (fun _ => 0))), ((x 34), .inl (cy 2, 384, .inr (.inl (fun _ => 0)))), ((x 35), .inl (cy 0, 96, .inl (fun _ => 0))), ((x 36), .inl (cy 0, 96, .inl (fun _ => 0))), ((x 38), .inl (cy 0, 96, .inl (fun _ => 0)))] (fun v : Int32 => False) (True) := by
  refine xi_go (by decide) (Nat.le_of_ble_eq_true rfl) (fun p e s m below meth c ls A hA S hr hlk hT hP hK hD hE hZ hl => ?_)
  have hS : va_S A s.heap s.heap [] := va_S.rf
  have hl : lv_has ls 7 [(0, .ref (x 0)), (1, .int p0), (2, .int p1), (3, .int p2), (4, .int p3)] := hl
  by_cases hz0 : z0 = 0
  · have e0 : p0 = 0 := Int32.toInt_inj.mp (by rw [h0, hz0]; rfl)
    subst e0
    have hl : lv_has ls 7 [(0, .ref (x 0)), (1, .int 0), (2, .int p1), (3, .int p2), (4, .int p3)] := hl
    refine lv_iload_n S.1 S.2.1 dX11_base_0 rfl (lv_at hl 2 rfl) ?_
    refine lv_iload_n S.1 S.2.1 dX11_base_1 rfl (lv_at hl 3 rfl) ?_
    refine call_ri (runS_R (wc := []) (As := [.int p1, .int p2]) (rest := []) S (kX11_cellAt l D cy p1 p2 z1 h1 z2 h2) hK hP [] rfl kw_538 kw_539 kw_144 kw_540 okX11_cellAt rfl (by decide) hl.1 rfl (Nat.le_of_ble_eq_true rfl) dX11_base_2 (by decide)) (fun v2 w2 => ?_)
    rcases w2 with ⟨rfl, w2_0_0⟩ | ⟨cx_2, cl_2, rfl, w2_1_0, w2_1_1, w2_1_2, w2_1_3⟩
    · refine lv_istore (lv' := [(5, .int (-1)), (0, .ref (x 0)), (1, .int 0), (2, .int p1), (3, .int p2), (4, .int p3)]) S.1 S.2.1 dX11_base_5 hl (by decide) rfl (fun ls hl => ?_)
      refine lv_iload S.1 S.2.1 dX11_base_7 (lv_at hl 0 rfl) ?_
      refine lv_iconst (v := (-1)) S.1 S.2.1 dX11_base_9 (by decide) ?_
      refine r_icmp_eq S (-1) (-1) rfl rfl dX11_base_10 (tgt := 24) (by decide) (fun _ => ?_) (fun c => absurd c (by decide))
      exact x_throw hst S kw_1369 kw_167 hT hlk hE hZ hS hl.1 dX11_base_24 dX11_base_27 dX11_base_28 dX11_base_31 (trivial) (by decide) (Nat.le_of_ble_eq_true rfl) (by decide) (by decide) (by decide) (by decide)
    · refine lv_istore (lv' := [(5, .int (nI (12 * cl_2 + cx_2))), (0, .ref (x 0)), (1, .int 0), (2, .int p1), (3, .int p2), (4, .int p3)]) S.1 S.2.1 dX11_base_5 hl (by decide) rfl (fun ls hl => ?_)
      refine lv_iload S.1 S.2.1 dX11_base_7 (lv_at hl 0 rfl) ?_
      refine lv_iconst (v := (-1)) S.1 S.2.1 dX11_base_9 (by decide) ?_
      refine r_icmp_eq S ((12 * cl_2 + cx_2 : Nat) : Int) (-1) (nI_toInt (by omega)) rfl dX11_base_10 (tgt := 24) (by decide) (fun c => absurd c (by omega)) (fun _ => ?_)
      refine lv_iload S.1 S.2.1 dX11_base_13 (lv_at hl 5 rfl) ?_
      refine r_if_lt S z3 h3 dX11_base_15 (tgt := 24) (by decide) (fun e_15_1 => ?_) (fun e_15_1 => ?_)
      · exact x_throw hst S kw_1369 kw_167 hT hlk hE hZ hS hl.1 dX11_base_24 dX11_base_27 dX11_base_28 dX11_base_31 (trivial) (by decide) (Nat.le_of_ble_eq_true rfl) (by decide) (by decide) (by decide) (by decide)
      · refine lv_iload S.1 S.2.1 dX11_base_18 (lv_at hl 5 rfl) ?_
        refine lv_iconst (v := 1) S.1 S.2.1 dX11_base_20 (by decide) ?_
        refine r_icmp_le S z3 1 h3 rfl dX11_base_21 (tgt := 32) (by decide) (fun e_21_2 => ?_) (fun e_21_2 => ?_)
        · refine lv_aload_n S.1 S.2.1 dX11_base_32 rfl (lv_at hl 1 rfl) ?_
          refine lv_iload_n S.1 S.2.1 dX11_base_33 rfl (lv_at hl 2 rfl) ?_
          refine call_q (wr := []) (runV_C (wc := [((x 0), .inr (10, [.int 0, .int (-1), .ref (x 1), .ref (x 9), .int 0, .ref (x 10), .ref (x 13), .ref (x 16), .ref (x 29), .int 0, .int 0, .ref (x 30), .int 0, .ref (x 31), .ref (x 42), .int 0, .int 0, .null, .ref (x 43)])), ((x 13), .inr (4, [.ref (x 14), .ref (x 15), .int 0, .ref (x 16)])), ((x 16), .inr (5, [.int 0, .ref (x 17), .ref (x 18), .ref (x 19), .ref (x 20), .ref (x 21), .int 0, .int 10, .int 20, .int 0, .int 0, .ref (x 22), .ref (x 23), .int 0, .ref (x 24), .ref (x 25), .ref (x 26), .ref (x 27), .ref (x 28)])), ((x 42), .inl (cy 7, 16, .inr (.inr (.inr (.inr (fun _ => none)))))), ((x 31), .inr (6, [.ref (x 32), .ref (x 9), .ref (x 29), .int 0, .int 0, .int 0, .ref (x 36), .ref (x 37), .ref (x 38), .ref (x 39), .ref (x 40), .ref (x 41), .int 0])), ((x 32), .inr (9, [.ref (x 33), .ref (x 34), .ref (x 35), .int 0])), ((x 33), .inl (cy 0, 384, .inl (fun _ => 0))), ((x 34), .inl (cy 2, 384, .inr (.inl (fun _ => 0)))), ((x 35), .inl (cy 0, 96, .inl (fun _ => 0))), ((x 36), .inl (cy 0, 96, .inl (fun _ => 0))), ((x 38), .inl (cy 0, 96, .inl (fun _ => 0)))]) (As := [.int 0]) (rest := []) S (kX11_groundOf_a l D cy x) hK hP hD [0, 1, 2, 3, 4, 5, 6, 7, 8, 9, 10] (by decide) rfl 0 10 rfl rfl kw_952 kw_954 kw_21 kw_144 kw_955 okX11_groundOf rfl (by decide) hl.1 rfl (Nat.le_of_ble_eq_true rfl) dX11_base_34 (by decide)) hP hD hS hA [0, 1, 2, 3, 4, 5, 6, 7, 8, 9, 10] [] rfl rfl (by decide) (by decide) (fun v34 u34 H locs w34 hP hD hS => ?_)
          obtain ⟨g_34, lo_34, hi_34⟩ := u34
          have hP : va_P D vwCl [((x 0), .inr (10, [.int 0, .int (-1), .ref (x 1), .ref (x 9), .int 0, .ref (x 10), .ref (x 13), .ref (x 16), .ref (x 29), .int 0, .int 0, .ref (x 30), .int 0, .ref (x 31), .ref (x 42), .int 1, .int 0, .null, .ref (x 43)])), ((x 13), .inr (4, [.ref (x 14), .ref (x 15), .int 0, .ref (x 16)])), ((x 16), .inr (5, [.int 0, .ref (x 17), .ref (x 18), .ref (x 19), .ref (x 20), .ref (x 21), .int 0, .int 10, .int 20, .int 0, .int 0, .ref (x 22), .ref (x 23), .int 0, .ref (x 24), .ref (x 25), .ref (x 26), .ref (x 27), .ref (x 28)])), ((x 42), .inl (cy 7, 16, .inr (.inr (.inr (.inr (va_up (fun _ => none) (0) (some g_34))))))), ((x 31), .inr (6, [.ref (x 32), .ref (x 9), .ref (x 29), .int 0, .int 0, .int 10, .ref (x 36), .ref (x 37), .ref (x 38), .ref (x 39), .ref (x 40), .ref (x 41), .int 1])), ((x 32), .inr (9, [.ref (x 33), .ref (x 34), .ref (x 35), .int 0])), ((x 33), .inl (cy 0, 384, .inl (fun _ => 10))), ((x 34), .inl (cy 2, 384, .inr (.inl (fun _ => 0)))), ((x 35), .inl (cy 0, 96, .inl (fun _ => (-1)))), ((x 36), .inl (cy 0, 96, .inl (fun _ => 0))), ((x 38), .inl (cy 0, 96, .inl (fun _ => (-268435456)))), (g_34, .inr (1, [.int 0, .int 1, .int 1, .int 0, .long 0, .int 0, .int 0, .ref lo_34, .ref hi_34])), (lo_34, .inl (cy 0, 96, .inl (fun _ => 0))), (hi_34, .inl (cy 0, 96, .inl (fun _ => 0)))] H := hP
          have hD : va_D A [((x 0), .inr (10, [.int 0, .int (-1), .ref (x 1), .ref (x 9), .int 0, .ref (x 10), .ref (x 13), .ref (x 16), .ref (x 29), .int 0, .int 0, .ref (x 30), .int 0, .ref (x 31), .ref (x 42), .int 1, .int 0, .null, .ref (x 43)])), ((x 13), .inr (4, [.ref (x 14), .ref (x 15), .int 0, .ref (x 16)])), ((x 16), .inr (5, [.int 0, .ref (x 17), .ref (x 18), .ref (x 19), .ref (x 20), .ref (x 21), .int 0, .int 10, .int 20, .int 0, .int 0, .ref (x 22), .ref (x 23), .int 0, .ref (x 24), .ref (x 25), .ref (x 26), .ref (x 27), .ref (x 28)])), ((x 42), .inl (cy 7, 16, .inr (.inr (.inr (.inr (va_up (fun _ => none) (0) (some g_34))))))), ((x 31), .inr (6, [.ref (x 32), .ref (x 9), .ref (x 29), .int 0, .int 0, .int 10, .ref (x 36), .ref (x 37), .ref (x 38), .ref (x 39), .ref (x 40), .ref (x 41), .int 1])), ((x 32), .inr (9, [.ref (x 33), .ref (x 34), .ref (x 35), .int 0])), ((x 33), .inl (cy 0, 384, .inl (fun _ => 10))), ((x 34), .inl (cy 2, 384, .inr (.inl (fun _ => 0)))), ((x 35), .inl (cy 0, 96, .inl (fun _ => (-1)))), ((x 36), .inl (cy 0, 96, .inl (fun _ => 0))), ((x 38), .inl (cy 0, 96, .inl (fun _ => (-268435456)))), (g_34, .inr (1, [.int 0, .int 1, .int 1, .int 0, .long 0, .int 0, .int 0, .ref lo_34, .ref hi_34])), (lo_34, .inl (cy 0, 96, .inl (fun _ => 0))), (hi_34, .inl (cy 0, 96, .inl (fun _ => 0)))] := hD
          subst w34
          refine lv_astore (lv' := [(6, .ref g_34), (5, .int (nI (12 * cl_2 + cx_2))), (0, .ref (x 0)), (1, .int 0), (2, .int p1), (3, .int p2), (4, .int p3)]) S.1 S.2.1 dX11_base_37 hl (by decide) rfl (fun ls hl => ?_)
          refine lv_aload S.1 S.2.1 dX11_base_39 (lv_at hl 0 rfl) ?_
          refine lv_ifnull S.1 S.2.1 dX11_base_41 ?_
          refine lv_aload S.1 S.2.1 dX11_base_44 (lv_at hl 0 rfl) ?_
          refine r_get S hK hP 11 1 rfl rfl inX1 5 (by decide) kw_1026 (v := .int 0) rfl dX11_base_46 ?_
          refine r_if_ne S 0 rfl dX11_base_49 (tgt := 60) (by decide) (fun c => absurd c (by decide)) (fun _ => ?_)
          exact x_throw hst S kw_1369 kw_167 hT hlk hE hZ hS hl.1 dX11_base_52 dX11_base_55 dX11_base_56 dX11_base_59 (trivial) (by decide) (Nat.le_of_ble_eq_true rfl) (by decide) (by decide) (by decide) (by decide)
        · exact x_throw hst S kw_1369 kw_167 hT hlk hE hZ hS hl.1 dX11_base_24 dX11_base_27 dX11_base_28 dX11_base_31 (trivial) (by decide) (Nat.le_of_ble_eq_true rfl) (by decide) (by decide) (by decide) (by decide)
  · refine lv_iload_n S.1 S.2.1 dX11_base_0 rfl (lv_at hl 2 rfl) ?_
    refine lv_iload_n S.1 S.2.1 dX11_base_1 rfl (lv_at hl 3 rfl) ?_
    refine call_ri (runS_R (wc := []) (As := [.int p1, .int p2]) (rest := []) S (kX11_cellAt l D cy p1 p2 z1 h1 z2 h2) hK hP [] rfl kw_538 kw_539 kw_144 kw_540 okX11_cellAt rfl (by decide) hl.1 rfl (Nat.le_of_ble_eq_true rfl) dX11_base_2 (by decide)) (fun v2 w2 => ?_)
    rcases w2 with ⟨rfl, w2_0_0⟩ | ⟨cx_2, cl_2, rfl, w2_1_0, w2_1_1, w2_1_2, w2_1_3⟩
    · refine lv_istore (lv' := [(5, .int (-1)), (0, .ref (x 0)), (1, .int p0), (2, .int p1), (3, .int p2), (4, .int p3)]) S.1 S.2.1 dX11_base_5 hl (by decide) rfl (fun ls hl => ?_)
      refine lv_iload S.1 S.2.1 dX11_base_7 (lv_at hl 0 rfl) ?_
      refine lv_iconst (v := (-1)) S.1 S.2.1 dX11_base_9 (by decide) ?_
      refine r_icmp_eq S (-1) (-1) rfl rfl dX11_base_10 (tgt := 24) (by decide) (fun _ => ?_) (fun c => absurd c (by decide))
      exact x_throw hst S kw_1369 kw_167 hT hlk hE hZ hS hl.1 dX11_base_24 dX11_base_27 dX11_base_28 dX11_base_31 (trivial) (by decide) (Nat.le_of_ble_eq_true rfl) (by decide) (by decide) (by decide) (by decide)
    · refine lv_istore (lv' := [(5, .int (nI (12 * cl_2 + cx_2))), (0, .ref (x 0)), (1, .int p0), (2, .int p1), (3, .int p2), (4, .int p3)]) S.1 S.2.1 dX11_base_5 hl (by decide) rfl (fun ls hl => ?_)
      refine lv_iload S.1 S.2.1 dX11_base_7 (lv_at hl 0 rfl) ?_
      refine lv_iconst (v := (-1)) S.1 S.2.1 dX11_base_9 (by decide) ?_
      refine r_icmp_eq S ((12 * cl_2 + cx_2 : Nat) : Int) (-1) (nI_toInt (by omega)) rfl dX11_base_10 (tgt := 24) (by decide) (fun c => absurd c (by omega)) (fun _ => ?_)
      refine lv_iload S.1 S.2.1 dX11_base_13 (lv_at hl 5 rfl) ?_
      refine r_if_lt S z3 h3 dX11_base_15 (tgt := 24) (by decide) (fun e_15_1 => ?_) (fun e_15_1 => ?_)
      · exact x_throw hst S kw_1369 kw_167 hT hlk hE hZ hS hl.1 dX11_base_24 dX11_base_27 dX11_base_28 dX11_base_31 (trivial) (by decide) (Nat.le_of_ble_eq_true rfl) (by decide) (by decide) (by decide) (by decide)
      · refine lv_iload S.1 S.2.1 dX11_base_18 (lv_at hl 5 rfl) ?_
        refine lv_iconst (v := 1) S.1 S.2.1 dX11_base_20 (by decide) ?_
        refine r_icmp_le S z3 1 h3 rfl dX11_base_21 (tgt := 32) (by decide) (fun e_21_2 => ?_) (fun e_21_2 => ?_)
        · refine lv_aload_n S.1 S.2.1 dX11_base_32 rfl (lv_at hl 1 rfl) ?_
          refine lv_iload_n S.1 S.2.1 dX11_base_33 rfl (lv_at hl 2 rfl) ?_
          refine call_rq (runV_R (wc := [((x 0), .inr (10, [.int 0, .int (-1), .ref (x 1), .ref (x 9), .int 0, .ref (x 10), .ref (x 13), .ref (x 16), .ref (x 29), .int 0, .int 0, .ref (x 30), .int 0, .ref (x 31), .ref (x 42), .int 0, .int 0, .null, .ref (x 43)]))]) (As := [.int p0]) (rest := []) S (kX11_groundOf_b l D cy x p0 z0 h0 (by omega)) hK hP [0] rfl 0 10 rfl rfl kw_952 kw_954 kw_21 kw_144 kw_955 okX11_groundOf rfl (by decide) hl.1 rfl (Nat.le_of_ble_eq_true rfl) dX11_base_34 (by decide)) (fun v34 w34 => ?_)
          subst w34
          refine lv_astoreN (lv' := [(6, .null), (5, .int (nI (12 * cl_2 + cx_2))), (0, .ref (x 0)), (1, .int p0), (2, .int p1), (3, .int p2), (4, .int p3)]) S.1 S.2.1 dX11_base_37 hl (by decide) rfl (fun ls hl => ?_)
          refine lv_aloadN S.1 S.2.1 dX11_base_39 (lv_at hl 0 rfl) ?_
          refine lv_ifnullN (tgt := 52) S.1 S.2.1 dX11_base_41 (by decide) ?_
          exact x_throw hst S kw_1369 kw_167 hT hlk hE hZ hS hl.1 dX11_base_52 dX11_base_55 dX11_base_56 dX11_base_59 (trivial) (by decide) (Nat.le_of_ble_eq_true rfl) (by decide) (by decide) (by decide) (by decide)
        · exact x_throw hst S kw_1369 kw_167 hT hlk hE hZ hS hl.1 dX11_base_24 dX11_base_27 dX11_base_28 dX11_base_31 (trivial) (by decide) (Nat.le_of_ble_eq_true rfl) (by decide) (by decide) (by decide) (by decide)
set_option maxHeartbeats 4000000 in
set_option maxRecDepth 100000 in
theorem kX11_deep (l : Launch) (D : va_G) (cy : Nat → ClassId) (x : Nat → Nat) (p0 : Int32) (p1 : Int32) (p2 : Int32) (p3 : Int32) (z0 : Int) (h0 : p0.toInt = z0) (z1 : Int) (h1 : p1.toInt = z1) (z2 : Int) (h2 : p2.toInt = z2) (z3 : Int) (h3 : p3.toInt = z3) (hst : l.stackTraces = false) : XI l D cy yX11_deep cX11_deep 6 (some .int) 8 198 4 207 [.ref (x 0), .int p0, .int p1, .int p2, .int p3] [((x 0), .inr (10, [.int 0, .int (-1), .ref (x 1), .ref (x 9), .int 0, .ref (x 10), .ref (x 13), .ref (x 16), .ref (x 29), .int 0, .int 0, .ref (x 30), .int 0, .ref (x 31), .ref (x 42), .int 0, .int 0, .null, .ref (x 43)])), ((x 13), .inr (4, [.ref (x 14), .ref (x 15), .int 0, .ref (x 16)])), ((x 16), .inr (5, [.int 0, .ref (x 17), .ref (x 18), .ref (x 19), .ref (x 20), .ref (x 21), .int 0, .int 10, .int 20, .int 0, .int 0, .ref (x 22), .ref (x 23), .int 0, .ref (x 24), .ref (x 25), .ref (x 26), .ref (x 27), .ref (x 28)])), ((x 42), .inl (cy 7, 16, .inr (.inr (.inr (.inr (fun _ => none)))))), ((x 31), .inr (6, [.ref (x 32), .ref (x 9), .ref (x 29), .int 0, .int 0, .int 0, .ref (x 36), .ref (x 37), .ref (x 38), .ref (x 39), .ref (x 40), .ref (x 41), .int 0])), ((x 32), .inr (9, [.ref (x 33), .ref (x 34), .ref (x 35), .int 0])), ((x 33), .inl (cy 0, 384, .inl (fun _ => 0))), ((x 34), .inl (cy 2, 384, .inr (.inl (fun _ => 0)))), ((x 35), .inl (cy 0, 96, .inl (fun _ => 0))), ((x 36), .inl (cy 0, 96, .inl (fun _ => 0))), ((x 38), .inl (cy 0, 96, .inl (fun _ => 0)))] (fun v : Int32 => False) (True) := by
  refine xi_go (by decide) (Nat.le_of_ble_eq_true rfl) (fun p e s m below meth c ls A hA S hr hlk hT hP hK hD hE hZ hl => ?_)
  have hS : va_S A s.heap s.heap [] := va_S.rf
  have hl : lv_has ls 6 [(0, .ref (x 0)), (1, .int p0), (2, .int p1), (3, .int p2), (4, .int p3)] := hl
  refine lv_iload_n S.1 S.2.1 dX11_deep_0 rfl (lv_at hl 1 rfl) ?_
  refine lv_iload_n S.1 S.2.1 dX11_deep_1 rfl (lv_at hl 2 rfl) ?_
  refine call_ri (runS_R (wc := []) (As := [.int p0, .int p1]) (rest := []) S (kX11_cellAt l D cy p0 p1 z0 h0 z1 h1) hK hP [] rfl kw_538 kw_539 kw_144 kw_540 okX11_cellAt rfl (by decide) hl.1 rfl (Nat.le_of_ble_eq_true rfl) dX11_deep_2 (by decide)) (fun v2 w2 => ?_)
  rcases w2 with ⟨rfl, w2_0_0⟩ | ⟨cx_2, cl_2, rfl, w2_1_0, w2_1_1, w2_1_2, w2_1_3⟩
  · refine lv_istore (lv' := [(5, .int (-1)), (0, .ref (x 0)), (1, .int p0), (2, .int p1), (3, .int p2), (4, .int p3)]) S.1 S.2.1 dX11_deep_5 hl (by decide) rfl (fun ls hl => ?_)
    refine lv_iload S.1 S.2.1 dX11_deep_7 (lv_at hl 0 rfl) ?_
    refine lv_iconst (v := (-1)) S.1 S.2.1 dX11_deep_9 (by decide) ?_
    refine r_icmp_eq S (-1) (-1) rfl rfl dX11_deep_10 (tgt := 46) (by decide) (fun _ => ?_) (fun c => absurd c (by decide))
    exact x_throw hst S kw_1369 kw_167 hT hlk hE hZ hS hl.1 dX11_deep_46 dX11_deep_49 dX11_deep_50 dX11_deep_53 (trivial) (by decide) (Nat.le_of_ble_eq_true rfl) (by decide) (by decide) (by decide) (by decide)
  · refine lv_istore (lv' := [(5, .int (nI (12 * cl_2 + cx_2))), (0, .ref (x 0)), (1, .int p0), (2, .int p1), (3, .int p2), (4, .int p3)]) S.1 S.2.1 dX11_deep_5 hl (by decide) rfl (fun ls hl => ?_)
    refine lv_iload S.1 S.2.1 dX11_deep_7 (lv_at hl 0 rfl) ?_
    refine lv_iconst (v := (-1)) S.1 S.2.1 dX11_deep_9 (by decide) ?_
    refine r_icmp_eq S ((12 * cl_2 + cx_2 : Nat) : Int) (-1) (nI_toInt (by omega)) rfl dX11_deep_10 (tgt := 46) (by decide) (fun c => absurd c (by omega)) (fun _ => ?_)
    refine lv_iload S.1 S.2.1 dX11_deep_13 (lv_at hl 5 rfl) ?_
    refine r_if_lt S z3 h3 dX11_deep_15 (tgt := 46) (by decide) (fun e_15_1 => ?_) (fun e_15_1 => ?_)
    · exact x_throw hst S kw_1369 kw_167 hT hlk hE hZ hS hl.1 dX11_deep_46 dX11_deep_49 dX11_deep_50 dX11_deep_53 (trivial) (by decide) (Nat.le_of_ble_eq_true rfl) (by decide) (by decide) (by decide) (by decide)
    · refine lv_iload S.1 S.2.1 dX11_deep_18 (lv_at hl 5 rfl) ?_
      refine lv_iconst (v := 1) S.1 S.2.1 dX11_deep_20 (by decide) ?_
      refine r_icmp_gt S z3 1 h3 rfl dX11_deep_21 (tgt := 46) (by decide) (fun e_21_2 => ?_) (fun e_21_2 => ?_)
      · exact x_throw hst S kw_1369 kw_167 hT hlk hE hZ hS hl.1 dX11_deep_46 dX11_deep_49 dX11_deep_50 dX11_deep_53 (trivial) (by decide) (Nat.le_of_ble_eq_true rfl) (by decide) (by decide) (by decide) (by decide)
      · refine lv_aload_n S.1 S.2.1 dX11_deep_24 rfl (lv_at hl 1 rfl) ?_
        refine call_i (wr := []) (runV_C (wc := [((x 0), .inr (10, [.int 0, .int (-1), .ref (x 1), .ref (x 9), .int 0, .ref (x 10), .ref (x 13), .ref (x 16), .ref (x 29), .int 0, .int 0, .ref (x 30), .int 0, .ref (x 31), .ref (x 42), .int 0, .int 0, .null, .ref (x 43)])), ((x 13), .inr (4, [.ref (x 14), .ref (x 15), .int 0, .ref (x 16)])), ((x 16), .inr (5, [.int 0, .ref (x 17), .ref (x 18), .ref (x 19), .ref (x 20), .ref (x 21), .int 0, .int 10, .int 20, .int 0, .int 0, .ref (x 22), .ref (x 23), .int 0, .ref (x 24), .ref (x 25), .ref (x 26), .ref (x 27), .ref (x 28)])), ((x 42), .inl (cy 7, 16, .inr (.inr (.inr (.inr (fun _ => none)))))), ((x 31), .inr (6, [.ref (x 32), .ref (x 9), .ref (x 29), .int 0, .int 0, .int 0, .ref (x 36), .ref (x 37), .ref (x 38), .ref (x 39), .ref (x 40), .ref (x 41), .int 0])), ((x 32), .inr (9, [.ref (x 33), .ref (x 34), .ref (x 35), .int 0])), ((x 33), .inl (cy 0, 384, .inl (fun _ => 0))), ((x 34), .inl (cy 2, 384, .inr (.inl (fun _ => 0)))), ((x 35), .inl (cy 0, 96, .inl (fun _ => 0))), ((x 36), .inl (cy 0, 96, .inl (fun _ => 0))), ((x 38), .inl (cy 0, 96, .inl (fun _ => 0)))]) (As := []) (rest := []) S (kX11_prepare_a l D cy x) hK hP hD [0, 1, 2, 3, 4, 5, 6, 7, 8, 9, 10] (by decide) rfl 0 10 rfl rfl kw_1167 kw_1169 kw_39 kw_144 kw_1170 okX11_prepare rfl (by decide) hl.1 rfl (Nat.le_of_ble_eq_true rfl) dX11_deep_25 (by decide)) hP hD hS hA [0, 1, 2, 3, 4, 5, 6, 7, 8, 9, 10] [] rfl rfl (by decide) (by decide) (fun v25 u25 H locs w25 hP hD hS => ?_)
        obtain ⟨g_25, lo_25, hi_25⟩ := u25
        have hP : va_P D vwCl [((x 0), .inr (10, [.int 0, .int (-1), .ref (x 1), .ref (x 9), .int 0, .ref (x 10), .ref (x 13), .ref (x 16), .ref (x 29), .int 0, .int 0, .ref (x 30), .int 0, .ref (x 31), .ref (x 42), .int 1, .int 1, .ref g_25, .ref (x 43)])), ((x 13), .inr (4, [.ref (x 14), .ref (x 15), .int 0, .ref (x 16)])), ((x 16), .inr (5, [.int 0, .ref (x 17), .ref (x 18), .ref (x 19), .ref (x 20), .ref (x 21), .int 0, .int 10, .int 20, .int 0, .int 0, .ref (x 22), .ref (x 23), .int 0, .ref (x 24), .ref (x 25), .ref (x 26), .ref (x 27), .ref (x 28)])), ((x 42), .inl (cy 7, 16, .inr (.inr (.inr (.inr (va_up (fun _ => none) (0) (some g_25))))))), ((x 31), .inr (6, [.ref (x 32), .ref (x 9), .ref (x 29), .int 0, .int 0, .int 10, .ref (x 36), .ref (x 37), .ref (x 38), .ref (x 39), .ref (x 40), .ref (x 41), .int 1])), ((x 32), .inr (9, [.ref (x 33), .ref (x 34), .ref (x 35), .int 0])), ((x 33), .inl (cy 0, 384, .inl (fun _ => 10))), ((x 34), .inl (cy 2, 384, .inr (.inl (fun _ => 0)))), ((x 35), .inl (cy 0, 96, .inl (fun _ => (-1)))), ((x 36), .inl (cy 0, 96, .inl (fun _ => 0))), ((x 38), .inl (cy 0, 96, .inl (fun _ => (-268435456)))), (g_25, .inr (1, [.int 0, .int 1, .int 1, .int 0, .long 0, .int 0, .int 0, .ref lo_25, .ref hi_25])), (lo_25, .inl (cy 0, 96, .inl (fun _ => 0))), (hi_25, .inl (cy 0, 96, .inl (fun _ => 0)))] H := hP
        have hD : va_D A [((x 0), .inr (10, [.int 0, .int (-1), .ref (x 1), .ref (x 9), .int 0, .ref (x 10), .ref (x 13), .ref (x 16), .ref (x 29), .int 0, .int 0, .ref (x 30), .int 0, .ref (x 31), .ref (x 42), .int 1, .int 1, .ref g_25, .ref (x 43)])), ((x 13), .inr (4, [.ref (x 14), .ref (x 15), .int 0, .ref (x 16)])), ((x 16), .inr (5, [.int 0, .ref (x 17), .ref (x 18), .ref (x 19), .ref (x 20), .ref (x 21), .int 0, .int 10, .int 20, .int 0, .int 0, .ref (x 22), .ref (x 23), .int 0, .ref (x 24), .ref (x 25), .ref (x 26), .ref (x 27), .ref (x 28)])), ((x 42), .inl (cy 7, 16, .inr (.inr (.inr (.inr (va_up (fun _ => none) (0) (some g_25))))))), ((x 31), .inr (6, [.ref (x 32), .ref (x 9), .ref (x 29), .int 0, .int 0, .int 10, .ref (x 36), .ref (x 37), .ref (x 38), .ref (x 39), .ref (x 40), .ref (x 41), .int 1])), ((x 32), .inr (9, [.ref (x 33), .ref (x 34), .ref (x 35), .int 0])), ((x 33), .inl (cy 0, 384, .inl (fun _ => 10))), ((x 34), .inl (cy 2, 384, .inr (.inl (fun _ => 0)))), ((x 35), .inl (cy 0, 96, .inl (fun _ => (-1)))), ((x 36), .inl (cy 0, 96, .inl (fun _ => 0))), ((x 38), .inl (cy 0, 96, .inl (fun _ => (-268435456)))), (g_25, .inr (1, [.int 0, .int 1, .int 1, .int 0, .long 0, .int 0, .int 0, .ref lo_25, .ref hi_25])), (lo_25, .inl (cy 0, 96, .inl (fun _ => 0))), (hi_25, .inl (cy 0, 96, .inl (fun _ => 0)))] := hD
        subst w25
        refine r_if_eq S 1 rfl dX11_deep_28 (tgt := 46) (by decide) (fun c => absurd c (by decide)) (fun _ => ?_)
        refine lv_aload_n S.1 S.2.1 dX11_deep_31 rfl (lv_at hl 1 rfl) ?_
        refine lv_iload_n S.1 S.2.1 dX11_deep_32 rfl (lv_at hl 4 rfl) ?_
        refine call_ri (runV_R (wc := [((x 0), .inr (10, [.int 0, .int (-1), .ref (x 1), .ref (x 9), .int 0, .ref (x 10), .ref (x 13), .ref (x 16), .ref (x 29), .int 0, .int 0, .ref (x 30), .int 0, .ref (x 31), .ref (x 42), .int 1, .int 1, .ref g_25, .ref (x 43)])), ((x 16), .inr (5, [.int 0, .ref (x 17), .ref (x 18), .ref (x 19), .ref (x 20), .ref (x 21), .int 0, .int 10, .int 20, .int 0, .int 0, .ref (x 22), .ref (x 23), .int 0, .ref (x 24), .ref (x 25), .ref (x 26), .ref (x 27), .ref (x 28)]))]) (As := [.int p2]) (rest := []) S (kX11_isRock l D cy x g_25 lo_25 hi_25 p2 z2 h2) hK hP [0, 2] rfl 0 10 rfl rfl kw_1244 kw_1246 kw_48 kw_144 kw_1247 okX11_isRock rfl (by decide) hl.1 rfl (Nat.le_of_ble_eq_true rfl) dX11_deep_33 (by decide)) (fun v33 w33 => ?_)
        subst w33
        refine r_if_eq S 0 rfl dX11_deep_36 (tgt := 46) (by decide) (fun _ => ?_) (fun c => absurd c (by decide))
        exact x_throw hst S kw_1369 kw_167 hT hlk hE hZ hS hl.1 dX11_deep_46 dX11_deep_49 dX11_deep_50 dX11_deep_53 (trivial) (by decide) (Nat.le_of_ble_eq_true rfl) (by decide) (by decide) (by decide) (by decide)
set_option maxHeartbeats 4000000 in
set_option maxRecDepth 100000 in
theorem kX11_habit (l : Launch) (D : va_G) (cy : Nat → ClassId) (x : Nat → Nat) (p0 : Int32) (z0 : Int) (h0 : p0.toInt = z0) (hst : l.stackTraces = false) : XI l D cy yX11_habit cX11_habit 6 (some .int) 6 100 3 201 [.ref (x 0), .int p0] [((x 0), .inr (10, [.int 0, .int (-1), .ref (x 1), .ref (x 9), .int 0, .ref (x 10), .ref (x 13), .ref (x 16), .ref (x 29), .int 0, .int 0, .ref (x 30), .int 0, .ref (x 31), .ref (x 42), .int 0, .int 0, .null, .ref (x 43)])), ((x 13), .inr (4, [.ref (x 14), .ref (x 15), .int 0, .ref (x 16)])), ((x 16), .inr (5, [.int 0, .ref (x 17), .ref (x 18), .ref (x 19), .ref (x 20), .ref (x 21), .int 0, .int 10, .int 20, .int 0, .int 0, .ref (x 22), .ref (x 23), .int 0, .ref (x 24), .ref (x 25), .ref (x 26), .ref (x 27), .ref (x 28)])), ((x 42), .inl (cy 7, 16, .inr (.inr (.inr (.inr (fun _ => none)))))), ((x 31), .inr (6, [.ref (x 32), .ref (x 9), .ref (x 29), .int 0, .int 0, .int 0, .ref (x 36), .ref (x 37), .ref (x 38), .ref (x 39), .ref (x 40), .ref (x 41), .int 0]))] (fun v : Int32 => v = 0 ∧ 0 ≤ z0 ∧ z0 ≤ 5) (¬ (0 ≤ z0 ∧ z0 ≤ 5)) := by
  refine xi_go (by decide) (Nat.le_of_ble_eq_true rfl) (fun p e s m below meth c ls A hA S hr hlk hT hP hK hD hE hZ hl => ?_)
  have hS : va_S A s.heap s.heap [] := va_S.rf
  have hl : lv_has ls 6 [(0, .ref (x 0)), (1, .int p0)] := hl
  refine lv_iload_n S.1 S.2.1 dX11_habit_0 rfl (lv_at hl 1 rfl) ?_
  refine call_ri (runS_R (wc := []) (As := [.int p0]) (rest := []) S (kX11_isHand l D cy p0 z0 h0) hK hP [] rfl kw_1295 kw_1296 kw_144 kw_1297 okX11_isHand rfl (by decide) hl.1 rfl (Nat.le_of_ble_eq_true rfl) dX11_habit_1 (by decide)) (fun v1 w1 => ?_)
  rcases w1 with ⟨rfl, w1_0_0⟩ | ⟨rfl, w1_1_0⟩
  · refine r_if_ne S 1 rfl dX11_habit_4 (tgt := 15) (by decide) (fun _ => ?_) (fun c => absurd c (by decide))
    refine lv_aload_n S.1 S.2.1 dX11_habit_15 rfl (lv_at hl 0 rfl) ?_
    refine call_v (wr := []) (runV_C (wc := [((x 0), .inr (10, [.int 0, .int (-1), .ref (x 1), .ref (x 9), .int 0, .ref (x 10), .ref (x 13), .ref (x 16), .ref (x 29), .int 0, .int 0, .ref (x 30), .int 0, .ref (x 31), .ref (x 42), .int 0, .int 0, .null, .ref (x 43)])), ((x 13), .inr (4, [.ref (x 14), .ref (x 15), .int 0, .ref (x 16)])), ((x 16), .inr (5, [.int 0, .ref (x 17), .ref (x 18), .ref (x 19), .ref (x 20), .ref (x 21), .int 0, .int 10, .int 20, .int 0, .int 0, .ref (x 22), .ref (x 23), .int 0, .ref (x 24), .ref (x 25), .ref (x 26), .ref (x 27), .ref (x 28)])), ((x 42), .inl (cy 7, 16, .inr (.inr (.inr (.inr (fun _ => none)))))), ((x 31), .inr (6, [.ref (x 32), .ref (x 9), .ref (x 29), .int 0, .int 0, .int 0, .ref (x 36), .ref (x 37), .ref (x 38), .ref (x 39), .ref (x 40), .ref (x 41), .int 0]))]) (As := []) (rest := []) S (kX11_settle_a l D cy x) hK hP hD [0, 1, 2, 3, 4] (by decide) rfl 0 10 rfl rfl kw_960 kw_962 kw_23 kw_144 kw_963 okX11_settle rfl (by decide) hl.1 rfl (Nat.le_of_ble_eq_true rfl) dX11_habit_16 (by decide)) hP hD hS hA [0, 1, 2, 3, 4] [] rfl rfl (by decide) (by decide) (fun u16 H locs w16 hP hD hS => ?_)
    obtain ⟨g_16, lo_16, hi_16⟩ := u16
    have hP : va_P D vwCl [((x 0), .inr (10, [.int 0, .int (-1), .ref (x 1), .ref (x 9), .int 0, .ref (x 10), .ref (x 13), .ref (x 16), .ref (x 29), .int 0, .int 0, .ref (x 30), .int 0, .ref (x 31), .ref (x 42), .int 1, .int 0, .null, .ref (x 43)])), ((x 13), .inr (4, [.ref (x 14), .ref (x 15), .int 0, .ref (x 16)])), ((x 16), .inr (5, [.int 0, .ref (x 17), .ref (x 18), .ref (x 19), .ref (x 20), .ref (x 21), .int 0, .int 10, .int 20, .int 0, .int 0, .ref (x 22), .ref (x 23), .int 0, .ref (x 24), .ref (x 25), .ref (x 26), .ref (x 27), .ref (x 28)])), ((x 42), .inl (cy 7, 16, .inr (.inr (.inr (.inr (va_up (fun _ => none) (0) (some g_16))))))), ((x 31), .inr (6, [.ref (x 32), .ref (x 9), .ref (x 29), .int 0, .int 0, .int 10, .ref (x 36), .ref (x 37), .ref (x 38), .ref (x 39), .ref (x 40), .ref (x 41), .int 0])), (g_16, .inr (1, [.int 0, .int 0, .int 0, .int 0, .long 0, .int 0, .int 0, .ref lo_16, .ref hi_16])), (lo_16, .inl (cy 0, 96, .inl (fun _ => 0))), (hi_16, .inl (cy 0, 96, .inl (fun _ => 0)))] H := hP
    have hD : va_D A [((x 0), .inr (10, [.int 0, .int (-1), .ref (x 1), .ref (x 9), .int 0, .ref (x 10), .ref (x 13), .ref (x 16), .ref (x 29), .int 0, .int 0, .ref (x 30), .int 0, .ref (x 31), .ref (x 42), .int 1, .int 0, .null, .ref (x 43)])), ((x 13), .inr (4, [.ref (x 14), .ref (x 15), .int 0, .ref (x 16)])), ((x 16), .inr (5, [.int 0, .ref (x 17), .ref (x 18), .ref (x 19), .ref (x 20), .ref (x 21), .int 0, .int 10, .int 20, .int 0, .int 0, .ref (x 22), .ref (x 23), .int 0, .ref (x 24), .ref (x 25), .ref (x 26), .ref (x 27), .ref (x 28)])), ((x 42), .inl (cy 7, 16, .inr (.inr (.inr (.inr (va_up (fun _ => none) (0) (some g_16))))))), ((x 31), .inr (6, [.ref (x 32), .ref (x 9), .ref (x 29), .int 0, .int 0, .int 10, .ref (x 36), .ref (x 37), .ref (x 38), .ref (x 39), .ref (x 40), .ref (x 41), .int 0])), (g_16, .inr (1, [.int 0, .int 0, .int 0, .int 0, .long 0, .int 0, .int 0, .ref lo_16, .ref hi_16])), (lo_16, .inl (cy 0, 96, .inl (fun _ => 0))), (hi_16, .inl (cy 0, 96, .inl (fun _ => 0)))] := hD
    refine lv_iconst (v := 0) S.1 S.2.1 dX11_habit_19 (by decide) ?_
    refine lv_istore_n (lv' := [(2, .int 0), (0, .ref (x 0)), (1, .int p0)]) S.1 S.2.1 dX11_habit_20 rfl hl (by decide) rfl (fun ls hl => ?_)
    refine lv_iconst (v := 0) S.1 S.2.1 dX11_habit_21 (by decide) ?_
    refine lv_istore_n (lv' := [(3, .int 0), (2, .int 0), (0, .ref (x 0)), (1, .int p0)]) S.1 S.2.1 dX11_habit_22 rfl hl (by decide) rfl (fun ls hl => ?_)
    refine lv_iconst (v := 0) S.1 S.2.1 dX11_habit_23 (by decide) ?_
    refine lv_istore (lv' := [(4, .int 0), (3, .int 0), (2, .int 0), (0, .ref (x 0)), (1, .int p0)]) S.1 S.2.1 dX11_habit_24 hl (by decide) rfl (fun ls hl => ?_)
    refine lv_iload S.1 S.2.1 dX11_habit_26 (lv_at hl 0 rfl) ?_
    refine lv_aload_n S.1 S.2.1 dX11_habit_28 rfl (lv_at hl 3 rfl) ?_
    refine r_get S hK hP 0 10 rfl rfl inX11 4 (by decide) kw_472 (v := .int 0) rfl dX11_habit_29 ?_
    refine r_icmp_ge S 0 0 rfl rfl dX11_habit_32 (tgt := 134) (by decide) (fun _ => ?_) (fun c => absurd c (by decide))
    refine lv_iload_n S.1 S.2.1 dX11_habit_134 rfl (lv_at hl 2 rfl) ?_
    refine lv_iconst (v := 3) S.1 S.2.1 dX11_habit_135 (by decide) ?_
    refine r_icmp_lt S 0 3 rfl rfl dX11_habit_136 (tgt := 149) (by decide) (fun _ => ?_) (fun c => absurd c (by decide))
    refine lv_iconst (v := 0) S.1 S.2.1 dX11_habit_149 (by decide) ?_
    exact x_ret S hr hlk rfl hS (⟨rfl, (by omega)⟩) (by decide) (by decide) dX11_habit_150
  · refine r_if_ne S 0 rfl dX11_habit_4 (tgt := 15) (by decide) (fun c => absurd c (by decide)) (fun _ => ?_)
    exact x_throw hst S kw_1369 kw_167 hT hlk hE hZ hS hl.1 dX11_habit_7 dX11_habit_10 dX11_habit_11 dX11_habit_14 (by omega) (by decide) (Nat.le_of_ble_eq_true rfl) (by decide) (by decide) (by decide) (by decide)
set_option maxHeartbeats 4000000 in
set_option maxRecDepth 100000 in
theorem kL_look (l : Launch) (D : va_G) (cy : Nat → ClassId) (x : Nat → Nat) (o : Nat) (p0 : Int32) (p1 : Int32) (z0 : Int) (h0 : p0.toInt = z0) (z1 : Int) (h1 : p1.toInt = z1) (hst : l.stackTraces = false) : CW l D cy yL_look cL_look 5 (some .int) [(0, 10, 13, 13)] 7 123 1 6 [.ref (x 0), .int p0, .int p1, .ref o] [((x 0), .inr (10, [.int 0, .int (-1), .ref (x 1), .ref (x 9), .int 0, .ref (x 10), .ref (x 13), .ref (x 16), .ref (x 29), .int 0, .int 0, .ref (x 30), .int 0, .ref (x 31), .ref (x 42), .int 0, .int 0, .null, .ref (x 43)])), (o, .inl (cy 2, 1, .inr (.inl (fun _ => 0))))] (fun (v : Int32) (u : Unit) => v = 1) (fun (u : Unit) => []) := by
  refine cw_go (by decide) (Nat.le_of_ble_eq_true rfl) (fun p e s m below meth c ls A hA S hr hlk hTab hP hK hD hE hZ hl => ?_)
  have hS : va_S A s.heap s.heap [] := va_S.rf
  have hl : lv_has ls 5 [(0, .ref (x 0)), (1, .int p0), (2, .int p1), (3, .ref o)] := hl
  refine lv_aload_n S.1 S.2.1 dL_look_0 rfl (lv_at hl 3 rfl) ?_
  refine lv_iconst (v := 0) S.1 S.2.1 dL_look_1 (by decide) ?_
  refine lv_aload_n S.1 S.2.1 dL_look_2 rfl (lv_at hl 0 rfl) ?_
  refine lv_iload_n S.1 S.2.1 dL_look_3 rfl (lv_at hl 1 rfl) ?_
  refine lv_iload_n S.1 S.2.1 dL_look_4 rfl (lv_at hl 2 rfl) ?_
  refine call_x (wr := [(o, .inl (cy 2, 1, .inr (.inl (fun _ => 0))))]) (runV_X (wc := [((x 0), .inr (10, [.int 0, .int (-1), .ref (x 1), .ref (x 9), .int 0, .ref (x 10), .ref (x 13), .ref (x 16), .ref (x 29), .int 0, .int 0, .ref (x 30), .int 0, .ref (x 31), .ref (x 42), .int 0, .int 0, .null, .ref (x 43)]))]) (As := [.int p0, .int p1]) (rest := [.int 0, .ref o]) S (kX11_look l D cy x p0 p1 z0 h0 z1 h1 hst) hK hP hD hS hA hE hZ [0] (by decide) rfl 0 10 rfl rfl kw_1365 kw_1366 kw_1367 kw_144 kw_1368 okX11_look rfl (by decide) hl.1 rfl (Nat.le_of_ble_eq_true rfl) dL_look_5 (by decide)) hP hD hS hA [0] [1] rfl rfl (by decide) (by decide) (fun ce q9 H locs wx hP hD hS hce hcv hcl => ?_) (fun v9 H locs wv hP hD hS => ?_)
  · refine x_catch S hTab (by decide) kw_1364 hE hce hcv hcl ?_
    refine lv_astore (lv' := [(4, .ref q9), (0, .ref (x 0)), (1, .int p0), (2, .int p1), (3, .ref o)]) S.1 S.2.1 dL_look_13 hl (by decide) rfl (fun ls hl => ?_)
    refine lv_iconst (v := 1) S.1 S.2.1 dL_look_15 (by decide) ?_
    exact ci_ret (u := ()) S hr hlk rfl hK (hP.sub [] rfl) (hD.sub [] (by decide) rfl) hS (rfl) (by decide) (by decide) dL_look_16
  · exact wv.elim
set_option maxHeartbeats 4000000 in
set_option maxRecDepth 100000 in
theorem kL_base (l : Launch) (D : va_G) (cy : Nat → ClassId) (x : Nat → Nat) (o : Nat) (p0 : Int32) (p1 : Int32) (p2 : Int32) (p3 : Int32) (z0 : Int) (h0 : p0.toInt = z0) (z1 : Int) (h1 : p1.toInt = z1) (z2 : Int) (h2 : p2.toInt = z2) (z3 : Int) (h3 : p3.toInt = z3) (hst : l.stackTraces = false) : CW l D cy yL_base cL_base 7 (some .int) [(0, 14, 17, 13)] 8 203 4 207 [.ref (x 0), .int p0, .int p1, .int p2, .int p3, .ref o] [((x 0), .inr (10, [.int 0, .int (-1), .ref (x 1), .ref (x 9), .int 0, .ref (x 10), .ref (x 13), .ref (x 16), .ref (x 29), .int 0, .int 0, .ref (x 30), .int 0, .ref (x 31), .ref (x 42), .int 0, .int 0, .null, .ref (x 43)])), ((x 13), .inr (4, [.ref (x 14), .ref (x 15), .int 0, .ref (x 16)])), ((x 16), .inr (5, [.int 0, .ref (x 17), .ref (x 18), .ref (x 19), .ref (x 20), .ref (x 21), .int 0, .int 10, .int 20, .int 0, .int 0, .ref (x 22), .ref (x 23), .int 0, .ref (x 24), .ref (x 25), .ref (x 26), .ref (x 27), .ref (x 28)])), ((x 42), .inl (cy 7, 16, .inr (.inr (.inr (.inr (fun _ => none)))))), ((x 31), .inr (6, [.ref (x 32), .ref (x 9), .ref (x 29), .int 0, .int 0, .int 0, .ref (x 36), .ref (x 37), .ref (x 38), .ref (x 39), .ref (x 40), .ref (x 41), .int 0])), ((x 32), .inr (9, [.ref (x 33), .ref (x 34), .ref (x 35), .int 0])), ((x 33), .inl (cy 0, 384, .inl (fun _ => 0))), ((x 34), .inl (cy 2, 384, .inr (.inl (fun _ => 0)))), ((x 35), .inl (cy 0, 96, .inl (fun _ => 0))), ((x 36), .inl (cy 0, 96, .inl (fun _ => 0))), ((x 38), .inl (cy 0, 96, .inl (fun _ => 0))), (o, .inl (cy 2, 1, .inr (.inl (fun _ => 0))))] (fun (v : Int32) (u : Unit) => v = 1) (fun (u : Unit) => []) := by
  refine cw_go (by decide) (Nat.le_of_ble_eq_true rfl) (fun p e s m below meth c ls A hA S hr hlk hTab hP hK hD hE hZ hl => ?_)
  have hS : va_S A s.heap s.heap [] := va_S.rf
  have hl : lv_has ls 7 [(0, .ref (x 0)), (1, .int p0), (2, .int p1), (3, .int p2), (4, .int p3), (5, .ref o)] := hl
  refine lv_aload S.1 S.2.1 dL_base_0 (lv_at hl 5 rfl) ?_
  refine lv_iconst (v := 0) S.1 S.2.1 dL_base_2 (by decide) ?_
  refine lv_aload_n S.1 S.2.1 dL_base_3 rfl (lv_at hl 0 rfl) ?_
  refine lv_iload_n S.1 S.2.1 dL_base_4 rfl (lv_at hl 1 rfl) ?_
  refine lv_iload_n S.1 S.2.1 dL_base_5 rfl (lv_at hl 2 rfl) ?_
  refine lv_iload_n S.1 S.2.1 dL_base_6 rfl (lv_at hl 3 rfl) ?_
  refine lv_iload S.1 S.2.1 dL_base_7 (lv_at hl 4 rfl) ?_
  refine call_x (wr := [(o, .inl (cy 2, 1, .inr (.inl (fun _ => 0))))]) (runV_X (wc := [((x 0), .inr (10, [.int 0, .int (-1), .ref (x 1), .ref (x 9), .int 0, .ref (x 10), .ref (x 13), .ref (x 16), .ref (x 29), .int 0, .int 0, .ref (x 30), .int 0, .ref (x 31), .ref (x 42), .int 0, .int 0, .null, .ref (x 43)])), ((x 13), .inr (4, [.ref (x 14), .ref (x 15), .int 0, .ref (x 16)])), ((x 16), .inr (5, [.int 0, .ref (x 17), .ref (x 18), .ref (x 19), .ref (x 20), .ref (x 21), .int 0, .int 10, .int 20, .int 0, .int 0, .ref (x 22), .ref (x 23), .int 0, .ref (x 24), .ref (x 25), .ref (x 26), .ref (x 27), .ref (x 28)])), ((x 42), .inl (cy 7, 16, .inr (.inr (.inr (.inr (fun _ => none)))))), ((x 31), .inr (6, [.ref (x 32), .ref (x 9), .ref (x 29), .int 0, .int 0, .int 0, .ref (x 36), .ref (x 37), .ref (x 38), .ref (x 39), .ref (x 40), .ref (x 41), .int 0])), ((x 32), .inr (9, [.ref (x 33), .ref (x 34), .ref (x 35), .int 0])), ((x 33), .inl (cy 0, 384, .inl (fun _ => 0))), ((x 34), .inl (cy 2, 384, .inr (.inl (fun _ => 0)))), ((x 35), .inl (cy 0, 96, .inl (fun _ => 0))), ((x 36), .inl (cy 0, 96, .inl (fun _ => 0))), ((x 38), .inl (cy 0, 96, .inl (fun _ => 0)))]) (As := [.int p0, .int p1, .int p2, .int p3]) (rest := [.int 0, .ref o]) S (kX11_base l D cy x p0 p1 p2 p3 z0 h0 z1 h1 z2 h2 z3 h3 hst) hK hP hD hS hA hE hZ [0, 1, 2, 3, 4, 5, 6, 7, 8, 9, 10] (by decide) rfl 0 10 rfl rfl kw_1437 kw_1438 kw_1439 kw_144 kw_1440 okX11_base rfl (by decide) hl.1 rfl (Nat.le_of_ble_eq_true rfl) dL_base_9 (by decide)) hP hD hS hA [0, 1, 2, 3, 4, 5, 6, 7, 8, 9, 10] [11] rfl rfl (by decide) (by decide) (fun ce q9 H locs wx hP hD hS hce hcv hcl => ?_) (fun v9 H locs wv hP hD hS => ?_)
  · refine x_catch S hTab (by decide) kw_1364 hE hce hcv hcl ?_
    refine lv_astore (lv' := [(6, .ref q9), (0, .ref (x 0)), (1, .int p0), (2, .int p1), (3, .int p2), (4, .int p3), (5, .ref o)]) S.1 S.2.1 dL_base_17 hl (by decide) rfl (fun ls hl => ?_)
    refine lv_iconst (v := 1) S.1 S.2.1 dL_base_19 (by decide) ?_
    exact ci_ret (u := ()) S hr hlk rfl hK (hP.sub [] rfl) (hD.sub [] (by decide) rfl) hS (rfl) (by decide) (by decide) dL_base_20
  · exact wv.elim
set_option maxHeartbeats 4000000 in
set_option maxRecDepth 100000 in
theorem kL_deep (l : Launch) (D : va_G) (cy : Nat → ClassId) (x : Nat → Nat) (o : Nat) (p0 : Int32) (p1 : Int32) (p2 : Int32) (p3 : Int32) (z0 : Int) (h0 : p0.toInt = z0) (z1 : Int) (h1 : p1.toInt = z1) (z2 : Int) (h2 : p2.toInt = z2) (z3 : Int) (h3 : p3.toInt = z3) (hst : l.stackTraces = false) : CW l D cy yL_deep cL_deep 7 (some .int) [(0, 14, 17, 13)] 9 223 4 207 [.ref (x 0), .int p0, .int p1, .int p2, .int p3, .ref o] [((x 0), .inr (10, [.int 0, .int (-1), .ref (x 1), .ref (x 9), .int 0, .ref (x 10), .ref (x 13), .ref (x 16), .ref (x 29), .int 0, .int 0, .ref (x 30), .int 0, .ref (x 31), .ref (x 42), .int 0, .int 0, .null, .ref (x 43)])), ((x 13), .inr (4, [.ref (x 14), .ref (x 15), .int 0, .ref (x 16)])), ((x 16), .inr (5, [.int 0, .ref (x 17), .ref (x 18), .ref (x 19), .ref (x 20), .ref (x 21), .int 0, .int 10, .int 20, .int 0, .int 0, .ref (x 22), .ref (x 23), .int 0, .ref (x 24), .ref (x 25), .ref (x 26), .ref (x 27), .ref (x 28)])), ((x 42), .inl (cy 7, 16, .inr (.inr (.inr (.inr (fun _ => none)))))), ((x 31), .inr (6, [.ref (x 32), .ref (x 9), .ref (x 29), .int 0, .int 0, .int 0, .ref (x 36), .ref (x 37), .ref (x 38), .ref (x 39), .ref (x 40), .ref (x 41), .int 0])), ((x 32), .inr (9, [.ref (x 33), .ref (x 34), .ref (x 35), .int 0])), ((x 33), .inl (cy 0, 384, .inl (fun _ => 0))), ((x 34), .inl (cy 2, 384, .inr (.inl (fun _ => 0)))), ((x 35), .inl (cy 0, 96, .inl (fun _ => 0))), ((x 36), .inl (cy 0, 96, .inl (fun _ => 0))), ((x 38), .inl (cy 0, 96, .inl (fun _ => 0))), (o, .inl (cy 2, 1, .inr (.inl (fun _ => 0))))] (fun (v : Int32) (u : Unit) => v = 1) (fun (u : Unit) => []) := by
  refine cw_go (by decide) (Nat.le_of_ble_eq_true rfl) (fun p e s m below meth c ls A hA S hr hlk hTab hP hK hD hE hZ hl => ?_)
  have hS : va_S A s.heap s.heap [] := va_S.rf
  have hl : lv_has ls 7 [(0, .ref (x 0)), (1, .int p0), (2, .int p1), (3, .int p2), (4, .int p3), (5, .ref o)] := hl
  refine lv_aload S.1 S.2.1 dL_deep_0 (lv_at hl 5 rfl) ?_
  refine lv_iconst (v := 0) S.1 S.2.1 dL_deep_2 (by decide) ?_
  refine lv_aload_n S.1 S.2.1 dL_deep_3 rfl (lv_at hl 0 rfl) ?_
  refine lv_iload_n S.1 S.2.1 dL_deep_4 rfl (lv_at hl 1 rfl) ?_
  refine lv_iload_n S.1 S.2.1 dL_deep_5 rfl (lv_at hl 2 rfl) ?_
  refine lv_iload_n S.1 S.2.1 dL_deep_6 rfl (lv_at hl 3 rfl) ?_
  refine lv_iload S.1 S.2.1 dL_deep_7 (lv_at hl 4 rfl) ?_
  refine call_x (wr := [(o, .inl (cy 2, 1, .inr (.inl (fun _ => 0))))]) (runV_X (wc := [((x 0), .inr (10, [.int 0, .int (-1), .ref (x 1), .ref (x 9), .int 0, .ref (x 10), .ref (x 13), .ref (x 16), .ref (x 29), .int 0, .int 0, .ref (x 30), .int 0, .ref (x 31), .ref (x 42), .int 0, .int 0, .null, .ref (x 43)])), ((x 13), .inr (4, [.ref (x 14), .ref (x 15), .int 0, .ref (x 16)])), ((x 16), .inr (5, [.int 0, .ref (x 17), .ref (x 18), .ref (x 19), .ref (x 20), .ref (x 21), .int 0, .int 10, .int 20, .int 0, .int 0, .ref (x 22), .ref (x 23), .int 0, .ref (x 24), .ref (x 25), .ref (x 26), .ref (x 27), .ref (x 28)])), ((x 42), .inl (cy 7, 16, .inr (.inr (.inr (.inr (fun _ => none)))))), ((x 31), .inr (6, [.ref (x 32), .ref (x 9), .ref (x 29), .int 0, .int 0, .int 0, .ref (x 36), .ref (x 37), .ref (x 38), .ref (x 39), .ref (x 40), .ref (x 41), .int 0])), ((x 32), .inr (9, [.ref (x 33), .ref (x 34), .ref (x 35), .int 0])), ((x 33), .inl (cy 0, 384, .inl (fun _ => 0))), ((x 34), .inl (cy 2, 384, .inr (.inl (fun _ => 0)))), ((x 35), .inl (cy 0, 96, .inl (fun _ => 0))), ((x 36), .inl (cy 0, 96, .inl (fun _ => 0))), ((x 38), .inl (cy 0, 96, .inl (fun _ => 0)))]) (As := [.int p0, .int p1, .int p2, .int p3]) (rest := [.int 0, .ref o]) S (kX11_deep l D cy x p0 p1 p2 p3 z0 h0 z1 h1 z2 h2 z3 h3 hst) hK hP hD hS hA hE hZ [0, 1, 2, 3, 4, 5, 6, 7, 8, 9, 10] (by decide) rfl 0 10 rfl rfl kw_1444 kw_1445 kw_1446 kw_144 kw_1447 okX11_deep rfl (by decide) hl.1 rfl (Nat.le_of_ble_eq_true rfl) dL_deep_9 (by decide)) hP hD hS hA [0, 1, 2, 3, 4, 5, 6, 7, 8, 9, 10] [11] rfl rfl (by decide) (by decide) (fun ce q9 H locs wx hP hD hS hce hcv hcl => ?_) (fun v9 H locs wv hP hD hS => ?_)
  · refine x_catch S hTab (by decide) kw_1364 hE hce hcv hcl ?_
    refine lv_astore (lv' := [(6, .ref q9), (0, .ref (x 0)), (1, .int p0), (2, .int p1), (3, .int p2), (4, .int p3), (5, .ref o)]) S.1 S.2.1 dL_deep_17 hl (by decide) rfl (fun ls hl => ?_)
    refine lv_iconst (v := 1) S.1 S.2.1 dL_deep_19 (by decide) ?_
    exact ci_ret (u := ()) S hr hlk rfl hK (hP.sub [] rfl) (hD.sub [] (by decide) rfl) hS (rfl) (by decide) (by decide) dL_deep_20
  · exact wv.elim
set_option maxHeartbeats 4000000 in
set_option maxRecDepth 100000 in
theorem kL_habit (l : Launch) (D : va_G) (cy : Nat → ClassId) (x : Nat → Nat) (o : Nat) (p0 : Int32) (z0 : Int) (h0 : p0.toInt = z0) (hst : l.stackTraces = false) : CW l D cy yL_habit cL_habit 4 (some .int) [(0, 9, 12, 13)] 7 125 3 201 [.ref (x 0), .int p0, .ref o] [((x 0), .inr (10, [.int 0, .int (-1), .ref (x 1), .ref (x 9), .int 0, .ref (x 10), .ref (x 13), .ref (x 16), .ref (x 29), .int 0, .int 0, .ref (x 30), .int 0, .ref (x 31), .ref (x 42), .int 0, .int 0, .null, .ref (x 43)])), ((x 13), .inr (4, [.ref (x 14), .ref (x 15), .int 0, .ref (x 16)])), ((x 16), .inr (5, [.int 0, .ref (x 17), .ref (x 18), .ref (x 19), .ref (x 20), .ref (x 21), .int 0, .int 10, .int 20, .int 0, .int 0, .ref (x 22), .ref (x 23), .int 0, .ref (x 24), .ref (x 25), .ref (x 26), .ref (x 27), .ref (x 28)])), ((x 42), .inl (cy 7, 16, .inr (.inr (.inr (.inr (fun _ => none)))))), ((x 31), .inr (6, [.ref (x 32), .ref (x 9), .ref (x 29), .int 0, .int 0, .int 0, .ref (x 36), .ref (x 37), .ref (x 38), .ref (x 39), .ref (x 40), .ref (x 41), .int 0])), (o, .inl (cy 2, 1, .inr (.inl (fun _ => 0))))] (fun (v : Int32) (u : (Nat → Int64)) => (v = 0 ∧ (u) 0 = 0 ∧ 0 ≤ z0 ∧ z0 ≤ 5) ∨ (v = 1 ∧ ¬ (0 ≤ z0 ∧ z0 ≤ 5))) (fun (u : (Nat → Int64)) => [(o, .inl (cy 2, 1, .inr (.inl (u))))]) := by
  refine cw_go (by decide) (Nat.le_of_ble_eq_true rfl) (fun p e s m below meth c ls A hA S hr hlk hTab hP hK hD hE hZ hl => ?_)
  have hS : va_S A s.heap s.heap [] := va_S.rf
  have hl : lv_has ls 4 [(0, .ref (x 0)), (1, .int p0), (2, .ref o)] := hl
  refine lv_aload_n S.1 S.2.1 dL_habit_0 rfl (lv_at hl 2 rfl) ?_
  refine lv_iconst (v := 0) S.1 S.2.1 dL_habit_1 (by decide) ?_
  refine lv_aload_n S.1 S.2.1 dL_habit_2 rfl (lv_at hl 0 rfl) ?_
  refine lv_iload_n S.1 S.2.1 dL_habit_3 rfl (lv_at hl 1 rfl) ?_
  refine call_x (wr := [(o, .inl (cy 2, 1, .inr (.inl (fun _ => 0))))]) (runV_X (wc := [((x 0), .inr (10, [.int 0, .int (-1), .ref (x 1), .ref (x 9), .int 0, .ref (x 10), .ref (x 13), .ref (x 16), .ref (x 29), .int 0, .int 0, .ref (x 30), .int 0, .ref (x 31), .ref (x 42), .int 0, .int 0, .null, .ref (x 43)])), ((x 13), .inr (4, [.ref (x 14), .ref (x 15), .int 0, .ref (x 16)])), ((x 16), .inr (5, [.int 0, .ref (x 17), .ref (x 18), .ref (x 19), .ref (x 20), .ref (x 21), .int 0, .int 10, .int 20, .int 0, .int 0, .ref (x 22), .ref (x 23), .int 0, .ref (x 24), .ref (x 25), .ref (x 26), .ref (x 27), .ref (x 28)])), ((x 42), .inl (cy 7, 16, .inr (.inr (.inr (.inr (fun _ => none)))))), ((x 31), .inr (6, [.ref (x 32), .ref (x 9), .ref (x 29), .int 0, .int 0, .int 0, .ref (x 36), .ref (x 37), .ref (x 38), .ref (x 39), .ref (x 40), .ref (x 41), .int 0]))]) (As := [.int p0]) (rest := [.int 0, .ref o]) S (kX11_habit l D cy x p0 z0 h0 hst) hK hP hD hS hA hE hZ [0, 1, 2, 3, 4] (by decide) rfl 0 10 rfl rfl kw_1455 kw_1456 kw_1457 kw_144 kw_1458 okX11_habit rfl (by decide) hl.1 rfl (Nat.le_of_ble_eq_true rfl) dL_habit_4 (by decide)) hP hD hS hA [0, 1, 2, 3, 4] [5] rfl rfl (by decide) (by decide) (fun ce q9 H locs wx hP hD hS hce hcv hcl => ?_) (fun v9 H locs wv hP hD hS => ?_)
  · refine x_catch S hTab (by decide) kw_1364 hE hce hcv hcl ?_
    refine lv_astore_n (lv' := [(3, .ref q9), (0, .ref (x 0)), (1, .int p0), (2, .ref o)]) S.1 S.2.1 dL_habit_12 rfl hl (by decide) rfl (fun ls hl => ?_)
    refine lv_iconst (v := 1) S.1 S.2.1 dL_habit_13 (by decide) ?_
    exact ci_ret (u := (fun _ => 0)) S hr hlk rfl hK (hP.sub [0] rfl) (hD.sub [0] (by decide) rfl) hS (Or.inr (⟨rfl, (by omega)⟩)) (by decide) (by decide) dL_habit_14
  · obtain ⟨rfl, wv_f0⟩ := wv
    refine lv_i2l (v := 0) S.1 S.2.1 dL_habit_7 (by decide) ?_
    refine r_last S hK hP hD hS 0 2 rfl rfl (0) rfl (by decide) (by decide) dL_habit_8 (fun H locs hP hD hS => ?_)
    have hP : va_P D vwCl [(o, .inl (cy 2, 1, .inr (.inl (vp_updL (fun _ => 0) (0) 0))))] H := hP
    have hD : va_D A [(o, .inl (cy 2, 1, .inr (.inl (vp_updL (fun _ => 0) (0) 0))))] := hD
    refine lv_goto (tgt := 15) S.1 S.2.1 dL_habit_9 (by decide) ?_
    refine lv_iconst (v := 0) S.1 S.2.1 dL_habit_15 (by decide) ?_
    exact ci_ret (u := (vp_updL (fun _ => 0) (0) 0)) S hr hlk rfl hK (hP.sub [0] rfl) (hD.sub [0] (by decide) rfl) hS (Or.inl ⟨rfl, rfl, (by omega)⟩) (by decide) (by decide) dL_habit_16
