/-! MAIN: what the start gives; the claim -/
theorem law_K {s : State} {b : Nat} (hts : ∀ w ∈ lw_tbl, w.before #[Value.ref b] s = true) : ∃ (D : va_G) (cy : Nat → ClassId), KX D cy s := by
  have hu : ∀ w ∈ uu, w.before #[Value.ref b] s = true := fun w h => hts w (List.mem_filter.mp h).1
  obtain ⟨c0, i0, k0⟩ := u_known hu inX0 (hts (.instantiable "LandSurvey$Break" 6) (List.mem_of_getElem? (i := 914) (by decide +kernel)))
  obtain ⟨c1, i1, k1⟩ := u_known hu inX1 (hts (.instantiable "LandSurvey$Ground" 9) (List.mem_of_getElem? (i := 1008) (by decide +kernel)))
  obtain ⟨c2, i2, k2⟩ := u_known hu inX2 (hts (.instantiable "LandSurvey$Land" 9) (List.mem_of_getElem? (i := 181) (by decide +kernel)))
  obtain ⟨c3, i3, k3⟩ := u_known hu inX3 (hts (.instantiable "LandSurvey$Reader" 14) (List.mem_of_getElem? (i := 229) (by decide +kernel)))
  obtain ⟨c4, i4, k4⟩ := u_known hu inX4 (hts (.instantiable "LandSurvey$RuleBook" 4) (List.mem_of_getElem? (i := 281) (by decide +kernel)))
  obtain ⟨c5, i5, k5⟩ := u_known hu inX5 (hts (.instantiable "LandSurvey$Rules" 19) (List.mem_of_getElem? (i := 288) (by decide +kernel)))
  obtain ⟨c6, i6, k6⟩ := u_known hu inX6 (hts (.instantiable "LandSurvey$Search" 13) (List.mem_of_getElem? (i := 397) (by decide +kernel)))
  obtain ⟨c7, i7, k7⟩ := u_known hu inX7 (hts (.instantiable "LandSurvey$Sheet" 1) (List.mem_of_getElem? (i := 1264) (by decide +kernel)))
  obtain ⟨c8, i8, k8⟩ := u_known hu inX8 (hts (.instantiable "LandSurvey$Sight" 19) (List.mem_of_getElem? (i := 553) (by decide +kernel)))
  obtain ⟨c9, i9, k9⟩ := u_known hu inX9 (hts (.instantiable "LandSurvey$Slopes" 4) (List.mem_of_getElem? (i := 403) (by decide +kernel)))
  obtain ⟨c10, i10, k10⟩ := u_known hu inX11 (hts (.instantiable "LandSurvey" 19) (List.mem_of_getElem? (i := 173) (by decide +kernel)))
  obtain ⟨c11, i11, k11⟩ := u_known hu inX12 (hts (.instantiable "LandSurveyModel" 87) (List.mem_of_getElem? (i := 1469) (by decide +kernel)))
  obtain ⟨a0, t0, f0⟩ := ty_prim (hts (.arrayClass .int) (List.mem_of_getElem? (i := 224) (by decide +kernel)))
  obtain ⟨a1, t1, f1⟩ := ty_prim (hts (.arrayClass .boolean) (List.mem_of_getElem? (i := 225) (by decide +kernel)))
  obtain ⟨a2, t2, f2⟩ := ty_prim (hts (.arrayClass .long) (List.mem_of_getElem? (i := 376) (by decide +kernel)))
  obtain ⟨a3, t3, f3⟩ := ty_prim (hts (.arrayClass .char) (List.mem_of_getElem? (i := 279) (by decide +kernel)))
  obtain ⟨a4, t4, f4⟩ := ty_obj (hts (.arrayOver (.object "LandSurvey$Sight")) (List.mem_of_getElem? (i := 227) (by decide +kernel)))
  obtain ⟨a5, t5, f5⟩ := ty_obj (hts (.arrayOver (.object "LandSurvey$Break")) (List.mem_of_getElem? (i := 393) (by decide +kernel)))
  obtain ⟨a6, t6, f6⟩ := ty_obj (hts (.arrayOver (.object "LandSurvey$Sheet")) (List.mem_of_getElem? (i := 395) (by decide +kernel)))
  obtain ⟨a7, t7, f7⟩ := ty_obj (hts (.arrayOver (.object "LandSurvey$Ground")) (List.mem_of_getElem? (i := 467) (by decide +kernel)))
  obtain ⟨a8, t8, f8⟩ := ty_obj (hts (.arrayOver (.object "LandSurvey$Rules")) (List.mem_of_getElem? (i := 287) (by decide +kernel)))
  refine ⟨(fun k => [c0, c1, c2, c3, c4, c5, c6, c7, c8, c9, c10, c11].getD k c0, fun k => [i0, i1, i2, i3, i4, i5, i6, i7, i8, i9, i10, i11].getD k i0), fun k => [a0, a1, a2, a3, a4, a5, a6, a7, a8].getD k a0, ⟨fun c q hq => ?_, fun k q hk => ?_⟩, ⟨va_AO.of (hts _ (List.mem_of_getElem? (i := 227) (by decide +kernel))), va_AO.of (hts _ (List.mem_of_getElem? (i := 393) (by decide +kernel))), va_AO.of (hts _ (List.mem_of_getElem? (i := 395) (by decide +kernel))), va_AO.of (hts _ (List.mem_of_getElem? (i := 467) (by decide +kernel))), va_AO.of (hts _ (List.mem_of_getElem? (i := 287) (by decide +kernel)))⟩, va_Nw.of rfl (hts _ (List.mem_of_getElem? (i := 230) (by decide +kernel))), va_Nw.of rfl (hts _ (List.mem_of_getElem? (i := 282) (by decide +kernel))), va_Nw.of rfl (hts _ (List.mem_of_getElem? (i := 404) (by decide +kernel)))⟩
  · match c, hq with
    | 0, hq => obtain rfl : (RX0, TX0, 6) = q := Option.some.inj hq; exact k0
    | 1, hq => obtain rfl : (RX1, TX1, 9) = q := Option.some.inj hq; exact k1
    | 2, hq => obtain rfl : (RX2, TX2, 9) = q := Option.some.inj hq; exact k2
    | 3, hq => obtain rfl : (RX3, TX3, 14) = q := Option.some.inj hq; exact k3
    | 4, hq => obtain rfl : (RX4, TX4, 4) = q := Option.some.inj hq; exact k4
    | 5, hq => obtain rfl : (RX5, TX5, 19) = q := Option.some.inj hq; exact k5
    | 6, hq => obtain rfl : (RX6, TX6, 13) = q := Option.some.inj hq; exact k6
    | 7, hq => obtain rfl : (RX7, TX7, 1) = q := Option.some.inj hq; exact k7
    | 8, hq => obtain rfl : (RX8, TX8, 19) = q := Option.some.inj hq; exact k8
    | 9, hq => obtain rfl : (RX9, TX9, 4) = q := Option.some.inj hq; exact k9
    | 10, hq => obtain rfl : (RX11, TX11, 19) = q := Option.some.inj hq; exact k10
    | 11, hq => obtain rfl : (RX12, TX12, 87) = q := Option.some.inj hq; exact k11
    | n + 12, hq => exact absurd (show n + 12 < 12 from (List.getElem?_eq_some_iff.mp hq).1) (by omega)
  · match k, hk with
    | 0, hk => obtain rfl : (a0, FieldType.int) = q := Option.some.inj hk; exact ⟨t0, f0⟩
    | 1, hk => obtain rfl : (a1, FieldType.boolean) = q := Option.some.inj hk; exact ⟨t1, f1⟩
    | 2, hk => obtain rfl : (a2, FieldType.long) = q := Option.some.inj hk; exact ⟨t2, f2⟩
    | 3, hk => obtain rfl : (a3, FieldType.char) = q := Option.some.inj hk; exact ⟨t3, f3⟩
    | 4, hk => obtain rfl : (a4, FieldType.object "LandSurvey$Sight") = q := Option.some.inj hk; exact ⟨t4, f4⟩
    | 5, hk => obtain rfl : (a5, FieldType.object "LandSurvey$Break") = q := Option.some.inj hk; exact ⟨t5, f5⟩
    | 6, hk => obtain rfl : (a6, FieldType.object "LandSurvey$Sheet") = q := Option.some.inj hk; exact ⟨t6, f6⟩
    | 7, hk => obtain rfl : (a7, FieldType.object "LandSurvey$Ground") = q := Option.some.inj hk; exact ⟨t7, f7⟩
    | 8, hk => obtain rfl : (a8, FieldType.object "LandSurvey$Rules") = q := Option.some.inj hk; exact ⟨t8, f8⟩
    | n + 9, hk => exact absurd (show n + 9 < 9 from (List.getElem?_eq_some_iff.mp hk).1) (by omega)
theorem law_E {s : State} {b : Nat} (hts : ∀ w ∈ lw_tbl, w.before #[Value.ref b] s = true) : Ey s := ⟨va_Nw.of rfl (hts _ (List.mem_of_getElem? (i := 1371) (by decide +kernel))), va_Nw.of rfl (hts _ (List.mem_of_getElem? (i := 1372) (by decide +kernel))), va_Nw.of rfl (hts _ (List.mem_of_getElem? (i := 1374) (by decide +kernel))), va_Nw.of rfl (hts _ (List.mem_of_getElem? (i := 1376) (by decide +kernel)))⟩
theorem law_Z {s : State} {b : Nat} (hts : ∀ w ∈ lw_tbl, w.before #[Value.ref b] s = true) (hgv : (Jvm.Cond.and given_1 narrow_1).before #[Value.ref b] s = true) : Zs (fun q => s.heap.size ≤ q) s s.heap := by
  have hs := flat_of_before _ hgv
  have hi := hts (.initialized "java/lang/Throwable") (List.mem_of_getElem? (i := 164) (by decide +kernel))
  exact ⟨vx_Zqof (hts _ (List.mem_of_getElem? (i := 1396) (by decide +kernel))) hi (hs _ (by decide +kernel)) (fun a h => Nat.not_le.mpr h), vx_Zqof (hts _ (List.mem_of_getElem? (i := 1398) (by decide +kernel))) hi (hs _ (by decide +kernel)) (fun a h => Nat.not_le.mpr h)⟩
abbrev fl1 : List Jvm.Cond := flatC (Jvm.Cond.and given_1 narrow_1)
abbrev wTm (i : Nat) : Term := .static "LandSurvey$Word" (wNm.getD i "") "LLandSurvey$Word;"
abbrev aTm : Term := .static "LandSurvey$Word" "ALL" "[LLandSurvey$Word;"
abbrev sTm (_ : Nat) : Term := .string "LandSurvey$Reader" 87
theorem nx_ex : ∀ i, i < 30 → Cond.exactly (wTm i) "LandSurvey$Word" ∈ fl1 := by decide +kernel
theorem nx_co : ∀ i, i < 30 → Cond.eq (.field (wTm i) "LandSurvey$Word" "code" "J") (.long (i64 (wCo.getD i 0))) ∈ fl1 := by decide +kernel
theorem nx_fa : ∀ i, i < 30 → Cond.eq (.field (wTm i) "LandSurvey$Word" "fact" "I") (.int (i32 (wFa.getD i 0))) ∈ fl1 := by decide +kernel
theorem nx_el : ∀ i, i < 30 → Cond.eq (.elem aTm (.int (Int32.ofNat i))) (wTm i) ∈ fl1 := by decide +kernel
theorem nx_la : ∀ i, i < 30 → Cond.laysStatic "LandSurvey$Word" (wNm.getD i "") "LLandSurvey$Word;" ∈ lw_tbl := by decide +kernel
theorem wCo_inj : ∀ i, i < 30 → ∀ j, j < 30 → i64 (wCo.getD i 0) = i64 (wCo.getD j 0) → i = j := by decide +kernel
theorem nx_by : ∀ j, j < 7 → Cond.eq (.elem (.field (sTm 0) "java/lang/String" "value" "[B") (.int (Int32.ofNat j))) (.int ((sBy.getD 0 []).getD j 0)) ∈ fl1 := by decide +kernel
theorem law_W {s : State} {b : Nat} (hts : ∀ w ∈ lw_tbl, w.before #[Value.ref b] s = true) (hgv : (Jvm.Cond.and given_1 narrow_1).before #[Value.ref b] s = true) : ∃ w : Nat → Nat, Wd w (Aof s.heap.size) s s.heap ∧ Sc w (Aof s.heap.size) s s.heap ∧ vk_R "LandSurvey$Reader" 87 "()<=+-;" (w 31) s := by
  have hs := flat_of_before _ hgv
  have hA : ∀ a : Nat, a < s.heap.size → ¬ Aof s.heap.size a := fun a h => Nat.not_le.mpr h
  have hini := hts (.initialized "LandSurvey$Word") (List.mem_of_getElem? (i := 155) (by decide +kernel))
  have h0 : ∀ i : Nat, ∃ t : Nat, i < 30 → (wTm i).eval #[Value.ref b] s none [] s = some (.ref t) := by
    intro i
    by_cases hi : i < 30
    · obtain ⟨a, c, cell, k, q1, -⟩ := Cond.exactly_spec (hs _ (nx_ex i hi))
      exact ⟨a, fun _ => q1⟩
    · exact ⟨0, fun h => absurd h hi⟩
  obtain ⟨ad, had⟩ := Classical.axiomOfChoice h0
  obtain ⟨ta, hta, hT⟩ := va_Tof (args := #[Value.ref b]) (s := s) (tm := aTm) (ty := .object "LandSurvey$Word") (N := 30) (f := fun i => .ref (ad i)) (A := Aof s.heap.size) (by decide) (hs _ (by decide +kernel)) (va_eqt (hs _ (by decide +kernel))) (fun j hj => va_eqv (hs _ (nx_el j hj)) (had j hj)) hA
  have hb7 : ∀ i : Nat, i < 1 → ∀ j : Nat, j < ([7] : List Nat).getD i 0 → (Cond.eq (.elem (.field (sTm i) "java/lang/String" "value" "[B") (.int (Int32.ofNat j))) (.int ((sBy.getD i []).getD j 0))).before #[Value.ref b] s = true := fun i hi j hj => by
    have e : i = 0 := by omega
    subst e
    exact hs _ (nx_by j hj)
  obtain ⟨aK, aV, hS, hSe⟩ := vk_Sof (args := #[Value.ref b]) (s := s) (N := 1) (tm := sTm) (len := [7]) (byt := sBy) (A := Aof s.heap.size) (fun i hi => by rw [show i = 0 by omega]; decide) (fun i hi => hs _ (by rw [show i = 0 by omega]; decide +kernel)) (fun i hi => hs _ (by rw [show i = 0 by omega]; decide +kernel)) (fun i hi => hs _ (by rw [show i = 0 by omega]; decide +kernel)) (fun i hi => hs _ (by rw [show i = 0 by omega]; decide +kernel)) hb7 (fun i j hi hj e => absurd (show i = j by omega) e) hA
  refine ⟨fun i => if i < 30 then ad i else if i = 30 then ta else if i = 31 then aK 0 else aV 0, ⟨fun i hi => ?_, fun i j hi hj e => ?_, ?_, ?_⟩, ⟨?_, ?_⟩, ?_⟩
  · show va_Z "LandSurvey$Word" (wNm.getD i "") "LLandSurvey$Word;" (.ref (if i < 30 then ad i else _)) _ _ _ ∧ va_OF _ _ _ _ (if i < 30 then ad i else _) _ _ _ ∧ va_OF _ _ _ _ (if i < 30 then ad i else _) _ _ _
    rw [if_pos hi]
    exact ⟨va_Zref (hts _ (nx_la i hi)) hini (had i hi) hA, vk_OFof (had i hi) (va_eqtl (hs _ (nx_co i hi))) hA, vk_OFof (had i hi) (va_eqt (hs _ (nx_fa i hi))) hA⟩
  · have e' : ad i = ad j := by
      have e2 : (if i < 30 then ad i else if i = 30 then ta else if i = 31 then aK 0 else aV 0) = (if j < 30 then ad j else if j = 30 then ta else if j = 31 then aK 0 else aV 0) := e
      rw [if_pos hi, if_pos hj] at e2
      exact e2
    obtain ⟨cf, k, fi, f, cell, h1, h2, h3, h4, h5, h6⟩ := vk_OFof (A := Aof s.heap.size) (had i hi) (va_eqtl (hs _ (nx_co i hi))) hA
    obtain ⟨cf', k', fi', f', cell', g1, g2, g3, g4, g5, g6⟩ := vk_OFof (A := Aof s.heap.size) (had j hj) (va_eqtl (hs _ (nx_co j hj))) hA
    rw [h1] at g1
    cases g1
    rw [← e', h3] at g3
    cases g3
    rw [h5] at g5
    exact wCo_inj i hi j hj (by injection g5 with z; injection z)
  · exact va_Zref (hts _ (List.mem_of_getElem? (i := 682) (by decide +kernel))) hini hta hA
  · have e : (fun i => Value.ref (if i < 30 then ad i else if i = 30 then ta else if i = 31 then aK 0 else aV 0)) = (fun i => if i < 30 then Value.ref (ad i) else Value.ref (if i = 30 then ta else if i = 31 then aK 0 else aV 0)) := by
      funext i
      split <;> rfl
    obtain ⟨cell, q1, q2, q3, q4, q5, q6, q7⟩ := hT
    refine ⟨cell, q1, q2, q3, q4, q5, fun j hj => ?_, q7⟩
    show cell.slots[j]? = some (.ref (if j < 30 then ad j else _))
    rw [if_pos hj]
    exact q6 j hj
  · refine ⟨fun i hi => ?_, fun i j hi hj _ => by omega⟩
    have e : i = 0 := by omega
    subst e
    exact hS.1 0 (by decide)
  · exact va_Zof (hts _ (List.mem_of_getElem? (i := 698) (by decide +kernel))) (hts _ (List.mem_of_getElem? (i := 156) (by decide +kernel))) (va_eqi (hs _ (by decide +kernel))) hA
  · exact vk_R.of (A := #[Value.ref b]) (hts (.stringRef "LandSurvey$Reader" 87 "()<=+-;") (List.mem_of_getElem? (i := 684) (by decide +kernel))) (hSe 0 (by decide))
theorem law_Ev {s : State} {b : Nat} (hts : ∀ w ∈ lw_tbl, w.before #[Value.ref b] s = true) (hgv : (Jvm.Cond.and given_1 narrow_1).before #[Value.ref b] s = true) : ∃ w : Nat → Nat, Ev w s.heap.size s s.heap := by
  obtain ⟨w, h1, h2, h3⟩ := law_W hts hgv
  exact ⟨w, ⟨⟨law_E hts, va_Nw.of rfl (hts _ (List.mem_of_getElem? (i := 895) (by decide +kernel)))⟩, h3⟩, law_Z hts hgv, h1, h2⟩
def hp0 : Hp := (fun _ => 0, fun _ => 0, fun _ _ => 0, fun _ _ => 0, fun _ _ => 0)
theorem hp0_ok : Okh hp0 := ⟨rfl, fun n j => okI_zero 0 j, fun n j => (by decide : inL 0), fun n => (by decide : (0 : Nat) < 2147483648), fun n j => Or.inl ⟨rfl, nn_of (T := 0) (by decide +kernel) j⟩⟩
theorem hp0_nd : ND hp0 := fun m => ⟨(by decide : ¬ (0 : Nat) = 2006), (by decide : ¬ (0 : Nat) = 1006)⟩
theorem hp0_hold {D : va_G} {cy : Nat → ClassId} {z0 : Nat} {H : Heap} : Hold D cy z0 hp0 H := ⟨⟨[], fun a => ⟨fun h => absurd h (by simp), fun h => absurd rfl h⟩, fun k q hk => absurd hk (by simp [va_pl]), ⟨fun i j p q h => absurd h (by simp [va_pl]), fun k q h => absurd h (by simp [va_pl])⟩⟩, rfl, fun n j => (by decide : inR 0), fun n j => (by decide : inL 0), fun n => (by decide : (0 : Nat) < 2147483648)⟩
