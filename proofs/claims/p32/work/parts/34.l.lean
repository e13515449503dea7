abbrev cJ7_copyOf_59c91 : ByteArray := prog_28_method_123_code
def yJ7_copyOf_59c91 : MethodName := ⟨"java/util/Arrays", "copyOf", "([II)[I"⟩
theorem okJ7_copyOf_59c91 : yok yJ7_copyOf_59c91 2 := by decide +kernel
theorem dJ7_copyOf_59c91_0 : decode cJ7_copyOf_59c91 0 = .ok (.iload_n 1, 1) := by decide +kernel
theorem dJ7_copyOf_59c91_1 : decode cJ7_copyOf_59c91 1 = .ok (.aload_n 0, 1) := by decide +kernel
theorem dJ7_copyOf_59c91_2 : decode cJ7_copyOf_59c91 2 = .ok (.arraylength, 1) := by decide +kernel
theorem dJ7_copyOf_59c91_3 : decode cJ7_copyOf_59c91 3 = .ok (.if_icmp .ne 11, 3) := by decide +kernel
theorem dJ7_copyOf_59c91_14 : decode cJ7_copyOf_59c91 14 = .ok (.iload_n 1, 1) := by decide +kernel
theorem dJ7_copyOf_59c91_15 : decode cJ7_copyOf_59c91 15 = .ok (.newarray .int, 2) := by decide +kernel
theorem dJ7_copyOf_59c91_17 : decode cJ7_copyOf_59c91 17 = .ok (.astore_n 2, 1) := by decide +kernel
theorem dJ7_copyOf_59c91_18 : decode cJ7_copyOf_59c91 18 = .ok (.aload_n 0, 1) := by decide +kernel
theorem dJ7_copyOf_59c91_19 : decode cJ7_copyOf_59c91 19 = .ok (.iconst 0, 1) := by decide +kernel
theorem dJ7_copyOf_59c91_20 : decode cJ7_copyOf_59c91 20 = .ok (.aload_n 2, 1) := by decide +kernel
theorem dJ7_copyOf_59c91_21 : decode cJ7_copyOf_59c91 21 = .ok (.iconst 0, 1) := by decide +kernel
theorem dJ7_copyOf_59c91_22 : decode cJ7_copyOf_59c91 22 = .ok (.aload_n 0, 1) := by decide +kernel
theorem dJ7_copyOf_59c91_23 : decode cJ7_copyOf_59c91 23 = .ok (.arraylength, 1) := by decide +kernel
theorem dJ7_copyOf_59c91_24 : decode cJ7_copyOf_59c91 24 = .ok (.iload_n 1, 1) := by decide +kernel
theorem dJ7_copyOf_59c91_25 : decode cJ7_copyOf_59c91 25 = .ok (.invokestatic 304, 3) := by decide +kernel
theorem kw_897 : Cond.methodLink "java/util/Arrays" 304 yJ9_min_7cf53 ∈ uu := uu_in (i := 897) (by decide +kernel) (by decide +kernel)
theorem dJ7_copyOf_59c91_28 : decode cJ7_copyOf_59c91 28 = .ok (.invokestatic 150, 3) := by decide +kernel
theorem kw_898 : Cond.methodLink "java/util/Arrays" 150 (⟨"java/lang/System", "arraycopy", "(Ljava/lang/Object;ILjava/lang/Object;II)V"⟩ : MethodName) ∈ uu := uu_in (i := 898) (by decide +kernel) (by decide +kernel)
theorem kw_900 : Cond.native (⟨"java/lang/System", "arraycopy", "(Ljava/lang/Object;ILjava/lang/Object;II)V"⟩ : MethodName) ∈ uu := uu_in (i := 900) (by decide +kernel) (by decide +kernel)
theorem kw_899 : Cond.static (⟨"java/lang/System", "arraycopy", "(Ljava/lang/Object;ILjava/lang/Object;II)V"⟩ : MethodName) ∈ uu := uu_in (i := 899) (by decide +kernel) (by decide +kernel)
theorem kw_162 : Cond.initialized "java/lang/System" ∈ uu := uu_in (i := 162) (by decide +kernel) (by decide +kernel)
theorem dJ7_copyOf_59c91_31 : decode cJ7_copyOf_59c91 31 = .ok (.aload_n 2, 1) := by decide +kernel
theorem dJ7_copyOf_59c91_32 : decode cJ7_copyOf_59c91 32 = .ok (.areturn, 1) := by decide +kernel
theorem dJ7_copyOf_59c91_6 : decode cJ7_copyOf_59c91 6 = .ok (.aload_n 0, 1) := by decide +kernel
theorem dJ7_copyOf_59c91_7 : decode cJ7_copyOf_59c91 7 = .ok (.invokevirtual 316, 3) := by decide +kernel
theorem kw_890 : Cond.methodLink "java/util/Arrays" 316 (⟨"[I", "clone", "()Ljava/lang/Object;"⟩ : MethodName) ∈ uu := uu_in (i := 890) (by decide +kernel) (by decide +kernel)
theorem kw_891 : Cond.sameMethod "[I" "java/lang/Object" "clone" "()Ljava/lang/Object;" ∈ uu := uu_in (i := 891) (by decide +kernel) (by decide +kernel)
theorem kw_892 : Cond.native (⟨"java/lang/Object", "clone", "()Ljava/lang/Object;"⟩ : MethodName) ∈ uu := uu_in (i := 892) (by decide +kernel) (by decide +kernel)
theorem kw_893 : Cond.instanceMethod (⟨"java/lang/Object", "clone", "()Ljava/lang/Object;"⟩ : MethodName) ∈ uu := uu_in (i := 893) (by decide +kernel) (by decide +kernel)
theorem kw_894 : Cond.selects "[I" (⟨"[I", "clone", "()Ljava/lang/Object;"⟩ : MethodName) (⟨"java/lang/Object", "clone", "()Ljava/lang/Object;"⟩ : MethodName) ∈ uu := uu_in (i := 894) (by decide +kernel) (by decide +kernel)
theorem kw_896 : Cond.classLink "java/util/Arrays" 317 "[I" ∈ uu := uu_in (i := 896) (by decide +kernel) (by decide +kernel)
theorem dJ7_copyOf_59c91_10 : decode cJ7_copyOf_59c91 10 = .ok (.checkcast 317, 3) := by decide +kernel
theorem dJ7_copyOf_59c91_13 : decode cJ7_copyOf_59c91 13 = .ok (.areturn, 1) := by decide +kernel
def wr_k_J7_copyOf_59c91 : List Nat := [7220000, 1000036100]
set_option maxRecDepth 100000 in
set_option maxHeartbeats 4000000 in
theorem k_J7_copyOf_59c91 (l : Launch) (D : va_G) (cy : Nat → ClassId) (w : Nat → Nat) (z0 : Nat)  {h : Hp} {a0 : Nat} {a1 : Int}  (O : Okh h) (ta0 : Tg h a0 = 20100) (la0 : Ln h a0 = 1500) (fa1 : 0 ≤ a1 ∧ a1 ≤ 1500) : MR l D cy w z0 yJ7_copyOf_59c91 cJ7_copyOf_59c91 3 (some (.array .int)) 2 80 1 1500 [.inr (.inr a0), .inl a1] h (fun v h1 => Okh h1 ∧ Fx wr_k_J7_copyOf_59c91 h h1 ∧ (Tg h1 v = 36100) ∧ ((Ln h1 v : Int) = a1)) := by
  refine hm_go (by decide +kernel) (Nat.le_of_ble_eq_true rfl) (fun p e s m below meth c C hr hn => ?_)
  refine g_iload_n C rfl 1 rfl dJ7_copyOf_59c91_0 ?_
  refine g_aload_n C rfl 0 rfl dJ7_copyOf_59c91_1 ?_
  refine g_alen (t := 0) C ta0 rfl rfl la0 dJ7_copyOf_59c91_2 ?_
  refine g_icmp_ne C (iw fa1 (by decide) (by decide)) (iw (il 1500) (by decide) (by decide)) 14 (by decide) dJ7_copyOf_59c91_3 (fun q1 => ?_) (fun q2 => ?_)
  · have f3 : (0 : Int) ≤ a1 ∧ a1 ≤ (1499 : Int) := r_nh fa1 q1
    refine g_iload_n C rfl 1 rfl dJ7_copyOf_59c91_14 ?_
    refine g_newa (atype := .int) (t := 0) (ty := .int) (N := 1499) C 36100 rfl (iw f3 (by decide) (by decide)) (by omega) rfl kw_224 rfl (fun _ => rfl) (by show a1.toNat * 4 ≤ _; omega) (by decide) (by omega) (by decide) dJ7_copyOf_59c91_15 (fun n4 z5 z6 h8 hh7 => ?_)
    have O9 := O.pN z5 z6 hh7 (by omega) nn_36100
    refine g_astore_n C [(2, .inr (.inr n4)), (0, .inr (.inr a0)), (1, .inl a1)] rfl (by decide) rfl dJ7_copyOf_59c91_17 ?_
    refine g_aload_n C rfl 1 rfl dJ7_copyOf_59c91_18 ?_
    refine g_iconst C dJ7_copyOf_59c91_19 ?_
    refine g_aload_n C rfl 0 rfl dJ7_copyOf_59c91_20 ?_
    refine g_iconst C dJ7_copyOf_59c91_21 ?_
    refine g_aload_n C rfl 1 rfl dJ7_copyOf_59c91_22 ?_
    have e10 : Tg h8 a0 = 20100 := ((pNT hh7 (pN_n hh7 z6 ta0)).trans ta0)
    have e11 : Ln h8 a0 = 1500 := ((pNL hh7 (pN_n hh7 z6 ta0)).trans la0)
    refine g_alen (t := 0) C e10 rfl rfl e11 dJ7_copyOf_59c91_23 ?_
    refine g_iload_n C rfl 2 rfl dJ7_copyOf_59c91_24 ?_
    refine g_mmin2 C (iw (il 1500) (by decide) (by decide)) (iw f3 (by decide) (by decide)) kw_897 kw_717 kw_158 kw_718 (by decide) (Nat.le_of_ble_eq_true rfl) (by decide) (by decide) dJ7_copyOf_59c91_25 (fun v12 q13 => ?_)
    have f14 : (0 : Int) ≤ v12 ∧ v12 ≤ (1499 : Int) := by omega
    refine g_copyi C e10 rfl (pN_T hh7) rfl e11 (pN_L hh7) (iw f14 (by decide) (by decide)) (by omega) kw_898 kw_900 kw_899 kw_162 (by decide) (Nat.le_of_ble_eq_true rfl) dJ7_copyOf_59c91_28 (fun h15 hh16 => ?_)
    have O17 := O9.pA (pN_T hh7) ar_36100 hh16 rI_36100_0 (fun i => by split; exact cp_ok O9 e10 ar_20100 rI_20100_0 i; exact cp_ok O9 (pN_T hh7) ar_36100 rI_36100_0 i)
    have F18 := fx_sA (pN_T hh7) ar_36100 hh16
    refine g_aload_n C rfl 0 rfl dJ7_copyOf_59c91_31 ?_
    have e19 : Tg h15 n4 = 36100 := (fxT F18 (pN_T hh7))
    have e20 : Ln h15 n4 = a1.toNat := ((fxL F18 (pN_T hh7)).trans (pN_L hh7))
    exact g_aret C hr (Or.inr ⟨_, rfl⟩) ⟨O17, (((Fx.rf (wr := wr_k_J7_copyOf_59c91)).pN z6 hh7 rfl).call F18 rfl), e19, (by rw [e20]; omega)⟩ (by decide) (by decide) dJ7_copyOf_59c91_32
  · have f21 : (1500 : Int) ≤ a1 ∧ a1 ≤ (1500 : Int) := ii fa1 (r_eq (il 1500) q2) (by decide) (by decide)
    refine g_aload_n C rfl 0 rfl dJ7_copyOf_59c91_6 ?_
    refine g_clone C 36100 rfl ta0 rfl la0 kw_890 kw_891 kw_892 kw_893 kw_894 (by decide) (Nat.le_of_ble_eq_true rfl) (by decide) (by decide) dJ7_copyOf_59c91_7 (fun n22 z23 z24 h25 hh26 h27 hh28 => ?_)
    have O29 := O.pN z23 z24 hh26 (by decide) nn_36100
    have O30 := O29.pA (pN_T hh26) ar_36100 hh28 rI_36100_0 (fun i => cp_ok O ta0 ar_20100 rI_20100_0 i)
    have F31 := fx_sA (pN_T hh26) ar_36100 hh28
    have e32 : Tg h27 n22 = 36100 := (fxT F31 (pN_T hh26))
    refine g_castA C e32 rfl kw_896 dJ7_copyOf_59c91_10 ?_
    have e33 : Ln h27 n22 = 1500 := ((fxL F31 (pN_T hh26)).trans (pN_L hh26))
    exact g_aret C hr (Or.inr ⟨_, rfl⟩) ⟨O30, (((Fx.rf (wr := wr_k_J7_copyOf_59c91)).pN z24 hh26 rfl).call F31 rfl), e32, (by rw [e33]; omega)⟩ (by decide) (by decide) dJ7_copyOf_59c91_13
