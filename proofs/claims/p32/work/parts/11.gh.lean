/-! GH: fields, arrays, new cells -/
theorem ft_i {c : Nat} {fi fj : Nat → Int} {fr : Nat → Nat} {j : Nat} {v : Int} (hf : ft c j ≠ 2 ∧ ft c j ≠ 4) : fvR c (fun i => if i = j then v else fi i) fj fr j = .inl v := by
  unfold fvR
  split
  · exact absurd (by assumption) hf.1
  · exact absurd (by assumption) hf.2
  · simp
theorem ft_iR {c : Nat} {fi fj : Nat → Int} {fr : Nat → Nat} {j i : Nat} {v : Int} (hi : i ≠ j) : fvR c (fun i => if i = j then v else fi i) fj fr i = fvR c fi fj fr i := by
  unfold fvR
  split <;> simp [hi]
theorem ft_j {c : Nat} {fi fj : Nat → Int} {fr : Nat → Nat} {j : Nat} {v : Int} (hf : ft c j = 2) : fvR c fi (fun i => if i = j then v else fj i) fr j = .inr (.inl v) := by
  unfold fvR
  rw [hf]
  simp
theorem ft_jR {c : Nat} {fi fj : Nat → Int} {fr : Nat → Nat} {j i : Nat} {v : Int} (hi : i ≠ j) : fvR c fi (fun i => if i = j then v else fj i) fr i = fvR c fi fj fr i := by
  unfold fvR
  split <;> simp [hi]
theorem ft_r {c : Nat} {fi fj : Nat → Int} {fr : Nat → Nat} {j : Nat} {v : Nat} (hf : ft c j = 4) : fvR c fi fj (fun i => if i = j then v else fr i) j = .inr (.inr v) := by
  unfold fvR
  rw [hf]
  simp
theorem ft_rR {c : Nat} {fi fj : Nat → Int} {fr : Nat → Nat} {j i : Nat} {v : Nat} (hi : i ≠ j) : fvR c fi fj (fun i => if i = j then v else fr i) i = fvR c fi fj fr i := by
  unfold fvR
  split <;> simp [hi]
theorem fs_len {c : Nat} {fi fj : Nat → Int} {fr : Nat → Nat} : (fsR c fi fj fr).length = nf c := by simp [fsR]
theorem nar_z {x : Int} (h0 : 0 ≤ x) (h1 : x ≤ 1) : narrow .boolean (toV (.inl x)) = toV (.inl x) ∧ fits .boolean (toV (.inl x)) = true := by
  rcases (show x = 0 ∨ x = 1 by omega) with rfl | rfl <;> decide
theorem pl_fresh {cy : Nat → ClassId} {z0 : Nat} {h : Hp} {a : Nat} {L : List Nat} {ce : va_E} (hD : va_D (Aof z0) (va_pl L (ceO cy h) ++ [(a, ce)])) : a ∉ L := by
  intro ha
  obtain ⟨k, hk⟩ := va_pl_get (X := []) (f := ceO cy h) ha
  simp only [List.nil_append] at hk
  have hl := (List.getElem?_eq_some_iff.mp hk).1
  have h1 : (va_pl L (ceO cy h) ++ [(a, ce)])[k]? = some (a, ceO cy h a) := by rw [List.getElem?_append_left hl]; exact hk
  have h2 : (va_pl L (ceO cy h) ++ [(a, ce)])[(va_pl L (ceO cy h)).length]? = some (a, ce) := by rw [List.getElem?_append_right (Nat.le_refl _)]; simp
  have := hD.1 _ _ _ _ h1 h2 rfl
  omega
section GH1
variable {p : Program} {l : Launch} {e : Env} {R : Room} {s : State} {m : MethodId} {args : Array Value} {below : List Frame} {meth : Method} {c : Code} {cells slots : Nat} {Q : State → Prop}
variable {D : va_G} {cy : Nat → ClassId} {cc : ByteArray} {z0 nL : Nat} {own : String} {pc : Nat} {lv : List (Nat × LV)} {st : List LV} {h : Hp} {w : Nat → Nat}
theorem vw_lt {c0 : Nat} {q : vw_C} (hc : vwCl[c0]? = some q) : c0 < 99 := Nat.lt_of_lt_of_le (List.getElem?_eq_some_iff.mp hc).1 (by decide)
theorem g_getI (C : Cx p l R s m args meth c D cy z0 nL cc own w) {Cn : String} {T : u_T} {N c0 j idx n T0 : Nat} (ht : Tg h n = T0) (hT0 : T0 % 1000 = c0 + 1) (hc : vwCl[c0]? = some (Cn, T, N)) (hN : nf c0 = N) (hin : ∀ w ∈ u_ws Cn T N, w ∈ uu) (hj : j < N) (hw : Cond.fieldLink own idx (T j).1 (T j).2.1 (T j).2.2.1 ∈ uu) (hf : ft c0 j ≠ 2 ∧ ft c0 j ≠ 4) {x : Int} (hv : Iv h n j = x) (d : decode cc pc = .ok (.getfield idx, 3)) (k : GW p l e R s m args below meth c D cy z0 nL Q (pc + 3) lv (.inl x :: st) h cells slots) : GW p l e R s m args below meth c D cy z0 nL Q pc lv (.inr (.inr n) :: st) h cells slots := fun H locs ls hH hS hl => by
  obtain ⟨a, L, q, rfl, ha, hL, hP, hD, hq⟩ := pl_at hH (n := n) (fun q => by rw [ht] at q; subst q; exact absurd hT0 (by omega))
  rw [ceO_ob ht hT0 (vw_lt hc)] at hq
  have hfv : fvR c0 (Iv h (a + 1)) (Jv h (a + 1)) (Rv h (a + 1)) j = .inl x := by unfold fvR; split; exact absurd (by assumption) hf.1; exact absurd (by assumption) hf.2; rw [hv]
  exact r_get C.1 C.2.1 hP q c0 hq hc hin j hj hw (v := toV (.inl x)) (by rw [fs_get (by omega), hfv]) d (k H locs ls hH hS hl)
theorem g_getJ (C : Cx p l R s m args meth c D cy z0 nL cc own w) {Cn : String} {T : u_T} {N c0 j idx n T0 : Nat} (ht : Tg h n = T0) (hT0 : T0 % 1000 = c0 + 1) (hc : vwCl[c0]? = some (Cn, T, N)) (hN : nf c0 = N) (hin : ∀ w ∈ u_ws Cn T N, w ∈ uu) (hj : j < N) (hw : Cond.fieldLink own idx (T j).1 (T j).2.1 (T j).2.2.1 ∈ uu) (hf : ft c0 j = 2) {x : Int} (hv : Jv h n j = x) (d : decode cc pc = .ok (.getfield idx, 3)) (k : GW p l e R s m args below meth c D cy z0 nL Q (pc + 3) lv (.inr (.inl x) :: st) h cells slots) : GW p l e R s m args below meth c D cy z0 nL Q pc lv (.inr (.inr n) :: st) h cells slots := fun H locs ls hH hS hl => by
  obtain ⟨a, L, q, rfl, ha, hL, hP, hD, hq⟩ := pl_at hH (n := n) (fun q => by rw [ht] at q; subst q; exact absurd hT0 (by omega))
  rw [ceO_ob ht hT0 (vw_lt hc)] at hq
  have hfv : fvR c0 (Iv h (a + 1)) (Jv h (a + 1)) (Rv h (a + 1)) j = .inr (.inl x) := by unfold fvR; rw [hf]; simp only [hv]
  exact r_get C.1 C.2.1 hP q c0 hq hc hin j hj hw (v := toV (.inr (.inl x))) (by rw [fs_get (by omega), hfv]) d (k H locs ls hH hS hl)
theorem g_getR (C : Cx p l R s m args meth c D cy z0 nL cc own w) {Cn : String} {T : u_T} {N c0 j idx n T0 : Nat} (ht : Tg h n = T0) (hT0 : T0 % 1000 = c0 + 1) (hc : vwCl[c0]? = some (Cn, T, N)) (hN : nf c0 = N) (hin : ∀ w ∈ u_ws Cn T N, w ∈ uu) (hj : j < N) (hw : Cond.fieldLink own idx (T j).1 (T j).2.1 (T j).2.2.1 ∈ uu) (hf : ft c0 j = 4) {x : Nat} (hv : Rv h n j = x) (d : decode cc pc = .ok (.getfield idx, 3)) (k : GW p l e R s m args below meth c D cy z0 nL Q (pc + 3) lv (.inr (.inr x) :: st) h cells slots) : GW p l e R s m args below meth c D cy z0 nL Q pc lv (.inr (.inr n) :: st) h cells slots := fun H locs ls hH hS hl => by
  obtain ⟨a, L, q, rfl, ha, hL, hP, hD, hq⟩ := pl_at hH (n := n) (fun q => by rw [ht] at q; subst q; exact absurd hT0 (by omega))
  rw [ceO_ob ht hT0 (vw_lt hc)] at hq
  have hfv : fvR c0 (Iv h (a + 1)) (Jv h (a + 1)) (Rv h (a + 1)) j = .inr (.inr x) := by unfold fvR; rw [hf]; simp only [hv]
  exact r_get C.1 C.2.1 hP q c0 hq hc hin j hj hw (v := toV (.inr (.inr x))) (by rw [fs_get (by omega), hfv]) d (k H locs ls hH hS hl)
theorem g_putI (C : Cx p l R s m args meth c D cy z0 nL cc own w) {Cn : String} {T : u_T} {N c0 j idx n T0 : Nat} (ht : Tg h n = T0) (hT0 : T0 % 1000 = c0 + 1) (hc : vwCl[c0]? = some (Cn, T, N)) (hN : nf c0 = N) (hin : ∀ w ∈ u_ws Cn T N, w ∈ uu) (hj : j < N) (hw : Cond.fieldLink own idx (T j).1 (T j).2.1 (T j).2.2.1 ∈ uu) (ty0 : Nat → FieldType) (hty : ∀ k, k < N → parseFieldDescriptor (T k).2.2.1 = some (ty0 k)) (hnm : ∀ a, a < N → ∀ b, b < N → a ≠ b → (T a).2.1 ≠ (T b).2.1) (hfin : (T j).2.2.2 = false) (hf : ft c0 j ≠ 2 ∧ ft c0 j ≠ 4) {x : Int} (hx : inR x) (hnf : narrow (ty0 j) (toV (.inl x)) = toV (.inl x) ∧ fits (ty0 j) (toV (.inl x)) = true) (d : decode cc pc = .ok (.putfield idx, 3)) (k : ∀ h1, sI h n j x = h1 → GW p l e R s m args below meth c D cy z0 nL Q (pc + 3) lv st h1 cells slots) : GW p l e R s m args below meth c D cy z0 nL Q pc lv (.inl x :: .inr (.inr n) :: st) h cells slots := fun H locs ls hH hS hl => by
  obtain ⟨a, L, q, rfl, ha, hL, hP, hD, hq⟩ := pl_at hH (n := n) (fun q => by rw [ht] at q; subst q; exact absurd hT0 (by omega))
  have hq2 := hq
  have ho := ceO_ob (cy := cy) ht hT0 (vw_lt hc)
  rw [ho] at hq2
  refine r_put C.1 C.2.1 hP hD hS q c0 hq2 hc hin j hj ty0 hty hnm hw (v := toV (.inl x)) hfin hnf.1 hnf.2 (by rw [fs_len, hN]; exact hj) d (fun H1 locs1 hP1 hD1 hS1 => k _ rfl H1 locs1 ls ?_ hS1 hl)
  refine pl_put hL hD ha hq hP1 hD1 (fun _ => rfl) (fun b hb => ceO_sI hb) ?_ hH.2.1 (fun n2 j2 => up2_inR hH.2.2.1 hx n2 j2) hH.2.2.2.1 hH.2.2.2.2
  rw [ceO_ob (c := c0) (show Tg (sI h (a + 1) j x) (a + 1) = T0 from ht) hT0 (vw_lt hc)]
  congr 2
  have e1 : Iv (sI h (a + 1) j x) (a + 1) = fun i => if i = j then x else Iv h (a + 1) i := up2_self _ _ _ _
  rw [e1]
  exact fs_set (by rw [ft_i hf]) (fun i hi => ft_iR hi)
theorem g_putIF (C : Cx p l R s m args meth c D cy z0 nL cc own w) {Cn : String} {T : u_T} {N c0 j idx n T0 : Nat} (ht : Tg h n = T0) (hT0 : T0 % 1000 = c0 + 1) (hc : vwCl[c0]? = some (Cn, T, N)) (hN : nf c0 = N) (hin : ∀ w ∈ u_ws Cn T N, w ∈ uu) (hj : j < N) (hw : Cond.fieldLink own idx (T j).1 (T j).2.1 (T j).2.2.1 ∈ uu) (ty0 : Nat → FieldType) (hty : ∀ k, k < N → parseFieldDescriptor (T k).2.2.1 = some (ty0 k)) (hnm : ∀ a, a < N → ∀ b, b < N → a ≠ b → (T a).2.1 ≠ (T b).2.1) (hfin : (T j).2.2.2 = true) (hmn : meth.name = "<init>") (hdecl : (T j).1 = own) (hf : ft c0 j ≠ 2 ∧ ft c0 j ≠ 4) {x : Int} (hx : inR x) (hnf : narrow (ty0 j) (toV (.inl x)) = toV (.inl x) ∧ fits (ty0 j) (toV (.inl x)) = true) (d : decode cc pc = .ok (.putfield idx, 3)) (k : ∀ h1, sI h n j x = h1 → GW p l e R s m args below meth c D cy z0 nL Q (pc + 3) lv st h1 cells slots) : GW p l e R s m args below meth c D cy z0 nL Q pc lv (.inl x :: .inr (.inr n) :: st) h cells slots := fun H locs ls hH hS hl => by
  obtain ⟨a, L, q, rfl, ha, hL, hP, hD, hq⟩ := pl_at hH (n := n) (fun q => by rw [ht] at q; subst q; exact absurd hT0 (by omega))
  have hq2 := hq
  have ho := ceO_ob (cy := cy) ht hT0 (vw_lt hc)
  rw [ho] at hq2
  refine r_putF C.1 C.2.1 hP hD hS q c0 hq2 hc hin j hj ty0 hty hnm hw (v := toV (.inl x)) hfin hmn hdecl hnf.1 hnf.2 (by rw [fs_len, hN]; exact hj) d (fun H1 locs1 hP1 hD1 hS1 => k _ rfl H1 locs1 ls ?_ hS1 hl)
  refine pl_put hL hD ha hq hP1 hD1 (fun _ => rfl) (fun b hb => ceO_sI hb) ?_ hH.2.1 (fun n2 j2 => up2_inR hH.2.2.1 hx n2 j2) hH.2.2.2.1 hH.2.2.2.2
  rw [ceO_ob (c := c0) (show Tg (sI h (a + 1) j x) (a + 1) = T0 from ht) hT0 (vw_lt hc)]
  congr 2
  have e1 : Iv (sI h (a + 1) j x) (a + 1) = fun i => if i = j then x else Iv h (a + 1) i := up2_self _ _ _ _
  rw [e1]
  exact fs_set (by rw [ft_i hf]) (fun i hi => ft_iR hi)
theorem g_putJ (C : Cx p l R s m args meth c D cy z0 nL cc own w) {Cn : String} {T : u_T} {N c0 j idx n T0 : Nat} (ht : Tg h n = T0) (hT0 : T0 % 1000 = c0 + 1) (hc : vwCl[c0]? = some (Cn, T, N)) (hN : nf c0 = N) (hin : ∀ w ∈ u_ws Cn T N, w ∈ uu) (hj : j < N) (hw : Cond.fieldLink own idx (T j).1 (T j).2.1 (T j).2.2.1 ∈ uu) (ty0 : Nat → FieldType) (hty : ∀ k, k < N → parseFieldDescriptor (T k).2.2.1 = some (ty0 k)) (hnm : ∀ a, a < N → ∀ b, b < N → a ≠ b → (T a).2.1 ≠ (T b).2.1) (hfin : (T j).2.2.2 = false) (hf : ft c0 j = 2) {x : Int} (hx : inL x) (hnf : narrow (ty0 j) (toV (.inr (.inl x))) = toV (.inr (.inl x)) ∧ fits (ty0 j) (toV (.inr (.inl x))) = true) (d : decode cc pc = .ok (.putfield idx, 3)) (k : ∀ h1, sJ h n j x = h1 → GW p l e R s m args below meth c D cy z0 nL Q (pc + 3) lv st h1 cells slots) : GW p l e R s m args below meth c D cy z0 nL Q pc lv (.inr (.inl x) :: .inr (.inr n) :: st) h cells slots := fun H locs ls hH hS hl => by
  obtain ⟨a, L, q, rfl, ha, hL, hP, hD, hq⟩ := pl_at hH (n := n) (fun q => by rw [ht] at q; subst q; exact absurd hT0 (by omega))
  have hq2 := hq
  have ho := ceO_ob (cy := cy) ht hT0 (vw_lt hc)
  rw [ho] at hq2
  refine r_put C.1 C.2.1 hP hD hS q c0 hq2 hc hin j hj ty0 hty hnm hw (v := toV (.inr (.inl x))) hfin hnf.1 hnf.2 (by rw [fs_len, hN]; exact hj) d (fun H1 locs1 hP1 hD1 hS1 => k _ rfl H1 locs1 ls ?_ hS1 hl)
  refine pl_put hL hD ha hq hP1 hD1 (fun _ => rfl) (fun b hb => ceO_sJ hb) ?_ hH.2.1 hH.2.2.1 (fun n2 j2 => up2_inL hH.2.2.2.1 hx n2 j2) hH.2.2.2.2
  rw [ceO_ob (c := c0) (show Tg (sJ h (a + 1) j x) (a + 1) = T0 from ht) hT0 (vw_lt hc)]
  congr 2
  have e1 : Jv (sJ h (a + 1) j x) (a + 1) = fun i => if i = j then x else Jv h (a + 1) i := up2_self _ _ _ _
  rw [e1]
  exact fs_set (by rw [ft_j hf]) (fun i hi => ft_jR hi)
theorem g_putJF (C : Cx p l R s m args meth c D cy z0 nL cc own w) {Cn : String} {T : u_T} {N c0 j idx n T0 : Nat} (ht : Tg h n = T0) (hT0 : T0 % 1000 = c0 + 1) (hc : vwCl[c0]? = some (Cn, T, N)) (hN : nf c0 = N) (hin : ∀ w ∈ u_ws Cn T N, w ∈ uu) (hj : j < N) (hw : Cond.fieldLink own idx (T j).1 (T j).2.1 (T j).2.2.1 ∈ uu) (ty0 : Nat → FieldType) (hty : ∀ k, k < N → parseFieldDescriptor (T k).2.2.1 = some (ty0 k)) (hnm : ∀ a, a < N → ∀ b, b < N → a ≠ b → (T a).2.1 ≠ (T b).2.1) (hfin : (T j).2.2.2 = true) (hmn : meth.name = "<init>") (hdecl : (T j).1 = own) (hf : ft c0 j = 2) {x : Int} (hx : inL x) (hnf : narrow (ty0 j) (toV (.inr (.inl x))) = toV (.inr (.inl x)) ∧ fits (ty0 j) (toV (.inr (.inl x))) = true) (d : decode cc pc = .ok (.putfield idx, 3)) (k : ∀ h1, sJ h n j x = h1 → GW p l e R s m args below meth c D cy z0 nL Q (pc + 3) lv st h1 cells slots) : GW p l e R s m args below meth c D cy z0 nL Q pc lv (.inr (.inl x) :: .inr (.inr n) :: st) h cells slots := fun H locs ls hH hS hl => by
  obtain ⟨a, L, q, rfl, ha, hL, hP, hD, hq⟩ := pl_at hH (n := n) (fun q => by rw [ht] at q; subst q; exact absurd hT0 (by omega))
  have hq2 := hq
  have ho := ceO_ob (cy := cy) ht hT0 (vw_lt hc)
  rw [ho] at hq2
  refine r_putF C.1 C.2.1 hP hD hS q c0 hq2 hc hin j hj ty0 hty hnm hw (v := toV (.inr (.inl x))) hfin hmn hdecl hnf.1 hnf.2 (by rw [fs_len, hN]; exact hj) d (fun H1 locs1 hP1 hD1 hS1 => k _ rfl H1 locs1 ls ?_ hS1 hl)
  refine pl_put hL hD ha hq hP1 hD1 (fun _ => rfl) (fun b hb => ceO_sJ hb) ?_ hH.2.1 hH.2.2.1 (fun n2 j2 => up2_inL hH.2.2.2.1 hx n2 j2) hH.2.2.2.2
  rw [ceO_ob (c := c0) (show Tg (sJ h (a + 1) j x) (a + 1) = T0 from ht) hT0 (vw_lt hc)]
  congr 2
  have e1 : Jv (sJ h (a + 1) j x) (a + 1) = fun i => if i = j then x else Jv h (a + 1) i := up2_self _ _ _ _
  rw [e1]
  exact fs_set (by rw [ft_j hf]) (fun i hi => ft_jR hi)
theorem g_putR (C : Cx p l R s m args meth c D cy z0 nL cc own w) {Cn : String} {T : u_T} {N c0 j idx n T0 : Nat} (ht : Tg h n = T0) (hT0 : T0 % 1000 = c0 + 1) (hc : vwCl[c0]? = some (Cn, T, N)) (hN : nf c0 = N) (hin : ∀ w ∈ u_ws Cn T N, w ∈ uu) (hj : j < N) (hw : Cond.fieldLink own idx (T j).1 (T j).2.1 (T j).2.2.1 ∈ uu) (ty0 : Nat → FieldType) (hty : ∀ k, k < N → parseFieldDescriptor (T k).2.2.1 = some (ty0 k)) (hnm : ∀ a, a < N → ∀ b, b < N → a ≠ b → (T a).2.1 ≠ (T b).2.1) (hfin : (T j).2.2.2 = false) (hf : ft c0 j = 4) {x : Nat} (hx : True) (hnf : narrow (ty0 j) (toV (.inr (.inr x))) = toV (.inr (.inr x)) ∧ fits (ty0 j) (toV (.inr (.inr x))) = true) (d : decode cc pc = .ok (.putfield idx, 3)) (k : ∀ h1, sR h n j x = h1 → GW p l e R s m args below meth c D cy z0 nL Q (pc + 3) lv st h1 cells slots) : GW p l e R s m args below meth c D cy z0 nL Q pc lv (.inr (.inr x) :: .inr (.inr n) :: st) h cells slots := fun H locs ls hH hS hl => by
  obtain ⟨a, L, q, rfl, ha, hL, hP, hD, hq⟩ := pl_at hH (n := n) (fun q => by rw [ht] at q; subst q; exact absurd hT0 (by omega))
  have hq2 := hq
  have ho := ceO_ob (cy := cy) ht hT0 (vw_lt hc)
  rw [ho] at hq2
  refine r_put C.1 C.2.1 hP hD hS q c0 hq2 hc hin j hj ty0 hty hnm hw (v := toV (.inr (.inr x))) hfin hnf.1 hnf.2 (by rw [fs_len, hN]; exact hj) d (fun H1 locs1 hP1 hD1 hS1 => k _ rfl H1 locs1 ls ?_ hS1 hl)
  refine pl_put hL hD ha hq hP1 hD1 (fun _ => rfl) (fun b hb => ceO_sR hb) ?_ hH.2.1 hH.2.2.1 hH.2.2.2.1 hH.2.2.2.2
  rw [ceO_ob (c := c0) (show Tg (sR h (a + 1) j x) (a + 1) = T0 from ht) hT0 (vw_lt hc)]
  congr 2
  have e1 : Rv (sR h (a + 1) j x) (a + 1) = fun i => if i = j then x else Rv h (a + 1) i := up2_self _ _ _ _
  rw [e1]
  exact fs_set (by rw [ft_r hf]) (fun i hi => ft_rR hi)
theorem g_putRF (C : Cx p l R s m args meth c D cy z0 nL cc own w) {Cn : String} {T : u_T} {N c0 j idx n T0 : Nat} (ht : Tg h n = T0) (hT0 : T0 % 1000 = c0 + 1) (hc : vwCl[c0]? = some (Cn, T, N)) (hN : nf c0 = N) (hin : ∀ w ∈ u_ws Cn T N, w ∈ uu) (hj : j < N) (hw : Cond.fieldLink own idx (T j).1 (T j).2.1 (T j).2.2.1 ∈ uu) (ty0 : Nat → FieldType) (hty : ∀ k, k < N → parseFieldDescriptor (T k).2.2.1 = some (ty0 k)) (hnm : ∀ a, a < N → ∀ b, b < N → a ≠ b → (T a).2.1 ≠ (T b).2.1) (hfin : (T j).2.2.2 = true) (hmn : meth.name = "<init>") (hdecl : (T j).1 = own) (hf : ft c0 j = 4) {x : Nat} (hx : True) (hnf : narrow (ty0 j) (toV (.inr (.inr x))) = toV (.inr (.inr x)) ∧ fits (ty0 j) (toV (.inr (.inr x))) = true) (d : decode cc pc = .ok (.putfield idx, 3)) (k : ∀ h1, sR h n j x = h1 → GW p l e R s m args below meth c D cy z0 nL Q (pc + 3) lv st h1 cells slots) : GW p l e R s m args below meth c D cy z0 nL Q pc lv (.inr (.inr x) :: .inr (.inr n) :: st) h cells slots := fun H locs ls hH hS hl => by
  obtain ⟨a, L, q, rfl, ha, hL, hP, hD, hq⟩ := pl_at hH (n := n) (fun q => by rw [ht] at q; subst q; exact absurd hT0 (by omega))
  have hq2 := hq
  have ho := ceO_ob (cy := cy) ht hT0 (vw_lt hc)
  rw [ho] at hq2
  refine r_putF C.1 C.2.1 hP hD hS q c0 hq2 hc hin j hj ty0 hty hnm hw (v := toV (.inr (.inr x))) hfin hmn hdecl hnf.1 hnf.2 (by rw [fs_len, hN]; exact hj) d (fun H1 locs1 hP1 hD1 hS1 => k _ rfl H1 locs1 ls ?_ hS1 hl)
  refine pl_put hL hD ha hq hP1 hD1 (fun _ => rfl) (fun b hb => ceO_sR hb) ?_ hH.2.1 hH.2.2.1 hH.2.2.2.1 hH.2.2.2.2
  rw [ceO_ob (c := c0) (show Tg (sR h (a + 1) j x) (a + 1) = T0 from ht) hT0 (vw_lt hc)]
  congr 2
  have e1 : Rv (sR h (a + 1) j x) (a + 1) = fun i => if i = j then x else Rv h (a + 1) i := up2_self _ _ _ _
  rw [e1]
  exact fs_set (by rw [ft_r hf]) (fun i hi => ft_rR hi)
theorem g_iald (C : Cx p l R s m args meth c D cy z0 nL cc own w) {n T0 : Nat} {i x : Int} (ht : Tg h n = T0) (hT0 : T0 % 1000 = 100) {k0 : Nat} (hl0 : Ln h n = k0) (hi : 0 ≤ i ∧ i < (k0 : Int)) (hv : Iv h n i.toNat = x) (d : decode cc pc = .ok (.iaload, 1)) (k : GW p l e R s m args below meth c D cy z0 nL Q (pc + 1) lv (.inl x :: st) h cells slots) : GW p l e R s m args below meth c D cy z0 nL Q pc lv (.inl i :: .inr (.inr n) :: st) h cells slots := fun H locs ls hH hS hl => by
  obtain ⟨a, L, q, rfl, ha, hL, hP, hD, hq⟩ := pl_at hH (n := n) (fun q => by rw [ht] at q; subst q; exact absurd hT0 (by omega))
  rw [ceO_ar (t := 0) ht hT0] at hq
  subst hv hl0
  exact r_iald C.1 C.2.1 hP q 0 hq rfl i.toNat (i32_nI hi.1) (by omega) (hH.2.2.2.2 _) rfl d (k H locs ls hH hS hl)
theorem g_zald (C : Cx p l R s m args meth c D cy z0 nL cc own w) {n T0 : Nat} {i x : Int} (ht : Tg h n = T0) (hT0 : T0 % 1000 = 101) {k0 : Nat} (hl0 : Ln h n = k0) (hi : 0 ≤ i ∧ i < (k0 : Int)) (hv : Iv h n i.toNat = x) (d : decode cc pc = .ok (.baload, 1)) (k : GW p l e R s m args below meth c D cy z0 nL Q (pc + 1) lv (.inl x :: st) h cells slots) : GW p l e R s m args below meth c D cy z0 nL Q pc lv (.inl i :: .inr (.inr n) :: st) h cells slots := fun H locs ls hH hS hl => by
  obtain ⟨a, L, q, rfl, ha, hL, hP, hD, hq⟩ := pl_at hH (n := n) (fun q => by rw [ht] at q; subst q; exact absurd hT0 (by omega))
  rw [ceO_ar (t := 1) ht hT0] at hq
  subst hv hl0
  exact r_zald C.1 C.2.1 hP q 1 hq rfl i.toNat (i32_nI hi.1) (by omega) (hH.2.2.2.2 _) rfl d (k H locs ls hH hS hl)
theorem g_cald (C : Cx p l R s m args meth c D cy z0 nL cc own w) {n T0 : Nat} {i x : Int} (ht : Tg h n = T0) (hT0 : T0 % 1000 = 103) {k0 : Nat} (hl0 : Ln h n = k0) (hi : 0 ≤ i ∧ i < (k0 : Int)) (hv : Iv h n i.toNat = x) (d : decode cc pc = .ok (.caload, 1)) (k : GW p l e R s m args below meth c D cy z0 nL Q (pc + 1) lv (.inl x :: st) h cells slots) : GW p l e R s m args below meth c D cy z0 nL Q pc lv (.inl i :: .inr (.inr n) :: st) h cells slots := fun H locs ls hH hS hl => by
  obtain ⟨a, L, q, rfl, ha, hL, hP, hD, hq⟩ := pl_at hH (n := n) (fun q => by rw [ht] at q; subst q; exact absurd hT0 (by omega))
  rw [ceO_ar (t := 3) ht hT0] at hq
  subst hv hl0
  exact r_cald C.1 C.2.1 hP q 3 hq rfl i.toNat (i32_nI hi.1) (by omega) (hH.2.2.2.2 _) rfl d (k H locs ls hH hS hl)
theorem g_lald (C : Cx p l R s m args meth c D cy z0 nL cc own w) {n T0 : Nat} {i x : Int} (ht : Tg h n = T0) (hT0 : T0 % 1000 = 102) {k0 : Nat} (hl0 : Ln h n = k0) (hi : 0 ≤ i ∧ i < (k0 : Int)) (hv : Jv h n i.toNat = x) (d : decode cc pc = .ok (.laload, 1)) (k : GW p l e R s m args below meth c D cy z0 nL Q (pc + 1) lv (.inr (.inl x) :: st) h cells slots) : GW p l e R s m args below meth c D cy z0 nL Q pc lv (.inl i :: .inr (.inr n) :: st) h cells slots := fun H locs ls hH hS hl => by
  obtain ⟨a, L, q, rfl, ha, hL, hP, hD, hq⟩ := pl_at hH (n := n) (fun q => by rw [ht] at q; subst q; exact absurd hT0 (by omega))
  rw [ceO_ar (t := 2) ht hT0] at hq
  subst hv hl0
  exact r_lald C.1 C.2.1 hP q 2 hq rfl i.toNat (i32_nI hi.1) (by omega) (hH.2.2.2.2 _) rfl d (k H locs ls hH hS hl)
theorem ar_q {t k : Nat} {fi fj : Nat → Int} {fr : Nat → Nat} (h4 : 4 ≤ t) : arR t k fi fj fr = (k, .inr (.inr (.inr (.inr (fun i => opt (fr i)))))) := by
  unfold arR
  rw [if_neg (by omega), if_neg (by omega)]
theorem g_aald (C : Cx p l R s m args meth c D cy z0 nL cc own w) {n t T0 x : Nat} {i : Int} {C0 : String} (ht : Tg h n = T0) (hT0 : T0 % 1000 = 100 + t) (h4 : 4 ≤ t) (hty : (TY cy)[t]? = some (cy t, .object C0)) {k0 : Nat} (hl0 : Ln h n = k0) (hi : 0 ≤ i ∧ i < (k0 : Int)) (hv : Rv h n i.toNat = x) (d : decode cc pc = .ok (.aaload, 1)) (k : GW p l e R s m args below meth c D cy z0 nL Q (pc + 1) lv (.inr (.inr x) :: st) h cells slots) : GW p l e R s m args below meth c D cy z0 nL Q pc lv (.inl i :: .inr (.inr n) :: st) h cells slots := fun H locs ls hH hS hl => by
  obtain ⟨a, L, q, rfl, ha, hL, hP, hD, hq⟩ := pl_at hH (n := n) (fun q => by rw [ht] at q; subst q; exact absurd hT0 (by omega))
  rw [ceO_ar (t := t) ht hT0, ar_q h4] at hq
  subst hv hl0
  exact r_aald C.1 C.2.1 hP q t hq hty i.toNat (i32_nI hi.1) (by omega) (hH.2.2.2.2 _) rfl d (k H locs ls hH hS hl)
theorem g_alen (C : Cx p l R s m args meth c D cy z0 nL cc own w) {n t T0 : Nat} {ty : FieldType} (ht : Tg h n = T0) (hT0 : T0 % 1000 = 100 + t) (hty : (TY cy)[t]? = some (cy t, ty)) {k0 : Nat} (hl0 : Ln h n = k0) (d : decode cc pc = .ok (.arraylength, 1)) (k : GW p l e R s m args below meth c D cy z0 nL Q (pc + 1) lv (.inl (k0 : Int) :: st) h cells slots) : GW p l e R s m args below meth c D cy z0 nL Q pc lv (.inr (.inr n) :: st) h cells slots := fun H locs ls hH hS hl => by
  obtain ⟨a, L, q, rfl, ha, hL, hP, hD, hq⟩ := pl_at hH (n := n) (fun q => by rw [ht] at q; subst q; exact absurd hT0 (by omega))
  rw [ceO_ar (t := t) ht hT0] at hq
  subst hl0
  exact r_alen C.1 C.2.1 hP q t hq hty (v := i32 (Ln h (a + 1) : Int)) rfl d (k H locs ls hH hS hl)
theorem z_nar {x : Int} (h : 0 ≤ x ∧ x ≤ 1) : vp_nar .boolean (i32 x) = i32 x := by
  rcases (show x = 0 ∨ x = 1 by omega) with rfl | rfl <;> decide
theorem z_inR {x : Int} (h : 0 ≤ x ∧ x ≤ 1) : inR x := by omega
theorem c_nar {x : Int} (h : 0 ≤ x ∧ x ≤ 65535) : vp_nar .char (i32 x) = i32 x := by
  obtain ⟨n, rfl⟩ := Int.eq_ofNat_of_zero_le h.1
  have hn : n < 65536 := by omega
  show (((i32 (n : Int)).toUInt32 % 65536).toInt32) = i32 (n : Int)
  apply Int32.toInt_inj.mp
  have e : (i32 (n : Int)).toUInt32 % 65536 = (i32 (n : Int)).toUInt32 := by
    apply UInt32.toNat_inj.mp
    rw [UInt32.toNat_mod]
    have : (i32 (n : Int)).toUInt32.toNat = n := by
      show (UInt32.ofNat n).toNat = n
      show n % 4294967296 = n
      omega
    rw [this]
    show n % 65536 = n
    omega
  rw [e]
  simp
theorem g_iast (C : Cx p l R s m args meth c D cy z0 nL cc own w) {n T0 : Nat} {i : Int} {x : Int} (ht : Tg h n = T0) (hT0 : T0 % 1000 = 100) {k0 : Nat} (hl0 : Ln h n = k0) (hi : 0 ≤ i ∧ i < (k0 : Int)) (hx : inR x) (d : decode cc pc = .ok (.iastore, 1)) (k : ∀ h1, sI h n i.toNat x = h1 → GW p l e R s m args below meth c D cy z0 nL Q (pc + 1) lv st h1 cells slots) : GW p l e R s m args below meth c D cy z0 nL Q pc lv (.inl x :: .inl i :: .inr (.inr n) :: st) h cells slots := fun H locs ls hH hS hl => by
  obtain ⟨a, L, q, rfl, ha, hL, hP, hD, hq⟩ := pl_at hH (n := n) (fun q => by rw [ht] at q; subst q; exact absurd hT0 (by omega))
  have hq2 := hq
  rw [ceO_ar (t := 0) ht hT0] at hq2
  subst hl0
  refine r_iast C.1 C.2.1 hP hD hS q 0 hq2 rfl i.toNat (i32_nI hi.1) (by omega) (hH.2.2.2.2 _) d (fun H1 locs1 hP1 hD1 hS1 => k _ rfl H1 locs1 ls ?_ hS1 hl)
  refine pl_put hL hD ha hq hP1 hD1 (fun _ => rfl) (fun b hb => ceO_sI hb) ?_ hH.2.1 (fun n2 j2 => up2_inR hH.2.2.1 hx n2 j2) hH.2.2.2.1 hH.2.2.2.2
  rw [ceO_ar (t := 0) (show Tg (sI h (a + 1) i.toNat x) (a + 1) = T0 from ht) hT0]
  have e1 : Iv (sI h (a + 1) i.toNat x) (a + 1) = fun z => if z = i.toNat then x else Iv h (a + 1) z := up2_self _ _ _ _
  rw [e1]
  show Sum.inl (cy 0, _, _) = Sum.inl (cy 0, _, _)
  congr 3
  show Sum.inl _ = Sum.inl _
  congr 1
  funext z
  show i32 (if z = i.toNat then x else Iv h (a + 1) z) = upd (fun i => i32 (Iv h (a + 1) i)) i.toNat (i32 x) z
  unfold upd
  by_cases hz : z = i.toNat
  · subst hz
    simp only [if_true]
    skip
  · simp only [hz, if_false]
theorem g_zast (C : Cx p l R s m args meth c D cy z0 nL cc own w) {n T0 : Nat} {i : Int} {x : Int} (ht : Tg h n = T0) (hT0 : T0 % 1000 = 101) {k0 : Nat} (hl0 : Ln h n = k0) (hi : 0 ≤ i ∧ i < (k0 : Int)) (hx : 0 ≤ x ∧ x ≤ 1) (d : decode cc pc = .ok (.bastore, 1)) (k : ∀ h1, sI h n i.toNat x = h1 → GW p l e R s m args below meth c D cy z0 nL Q (pc + 1) lv st h1 cells slots) : GW p l e R s m args below meth c D cy z0 nL Q pc lv (.inl x :: .inl i :: .inr (.inr n) :: st) h cells slots := fun H locs ls hH hS hl => by
  obtain ⟨a, L, q, rfl, ha, hL, hP, hD, hq⟩ := pl_at hH (n := n) (fun q => by rw [ht] at q; subst q; exact absurd hT0 (by omega))
  have hq2 := hq
  rw [ceO_ar (t := 1) ht hT0] at hq2
  subst hl0
  refine r_zast C.1 C.2.1 hP hD hS q 1 hq2 rfl i.toNat (i32_nI hi.1) (by omega) (hH.2.2.2.2 _) d (fun H1 locs1 hP1 hD1 hS1 => k _ rfl H1 locs1 ls ?_ hS1 hl)
  refine pl_put hL hD ha hq hP1 hD1 (fun _ => rfl) (fun b hb => ceO_sI hb) ?_ hH.2.1 (fun n2 j2 => up2_inR hH.2.2.1 (z_inR hx) n2 j2) hH.2.2.2.1 hH.2.2.2.2
  rw [ceO_ar (t := 1) (show Tg (sI h (a + 1) i.toNat x) (a + 1) = T0 from ht) hT0]
  have e1 : Iv (sI h (a + 1) i.toNat x) (a + 1) = fun z => if z = i.toNat then x else Iv h (a + 1) z := up2_self _ _ _ _
  rw [e1]
  show Sum.inl (cy 1, _, _) = Sum.inl (cy 1, _, _)
  congr 3
  show Sum.inl _ = Sum.inl _
  congr 1
  funext z
  show i32 (if z = i.toNat then x else Iv h (a + 1) z) = upd (fun i => i32 (Iv h (a + 1) i)) i.toNat (vp_nar .boolean (i32 x)) z
  unfold upd
  by_cases hz : z = i.toNat
  · subst hz
    simp only [if_true]
    rw [z_nar hx]
  · simp only [hz, if_false]
theorem g_last (C : Cx p l R s m args meth c D cy z0 nL cc own w) {n T0 : Nat} {i : Int} {x : Int} (ht : Tg h n = T0) (hT0 : T0 % 1000 = 102) {k0 : Nat} (hl0 : Ln h n = k0) (hi : 0 ≤ i ∧ i < (k0 : Int)) (hx : inL x) (d : decode cc pc = .ok (.lastore, 1)) (k : ∀ h1, sJ h n i.toNat x = h1 → GW p l e R s m args below meth c D cy z0 nL Q (pc + 1) lv st h1 cells slots) : GW p l e R s m args below meth c D cy z0 nL Q pc lv (.inr (.inl x) :: .inl i :: .inr (.inr n) :: st) h cells slots := fun H locs ls hH hS hl => by
  obtain ⟨a, L, q, rfl, ha, hL, hP, hD, hq⟩ := pl_at hH (n := n) (fun q => by rw [ht] at q; subst q; exact absurd hT0 (by omega))
  have hq2 := hq
  rw [ceO_ar (t := 2) ht hT0] at hq2
  subst hl0
  refine r_last C.1 C.2.1 hP hD hS q 2 hq2 rfl i.toNat (i32_nI hi.1) (by omega) (hH.2.2.2.2 _) d (fun H1 locs1 hP1 hD1 hS1 => k _ rfl H1 locs1 ls ?_ hS1 hl)
  refine pl_put hL hD ha hq hP1 hD1 (fun _ => rfl) (fun b hb => ceO_sJ hb) ?_ hH.2.1 hH.2.2.1 (fun n2 j2 => up2_inL hH.2.2.2.1 hx n2 j2) hH.2.2.2.2
  rw [ceO_ar (t := 2) (show Tg (sJ h (a + 1) i.toNat x) (a + 1) = T0 from ht) hT0]
  have e1 : Jv (sJ h (a + 1) i.toNat x) (a + 1) = fun z => if z = i.toNat then x else Jv h (a + 1) z := up2_self _ _ _ _
  rw [e1]
  show Sum.inl (cy 2, _, _) = Sum.inl (cy 2, _, _)
  congr 3
  show Sum.inr (Sum.inl _) = Sum.inr (Sum.inl _)
  congr 2
  funext z
  show i64 (if z = i.toNat then x else Jv h (a + 1) z) = vp_updL (fun i => i64 (Jv h (a + 1) i)) i.toNat (i64 x) z
  unfold vp_updL
  by_cases hz : z = i.toNat
  · subst hz
    simp only [if_true]
    skip
  · simp only [hz, if_false]
theorem g_cast (C : Cx p l R s m args meth c D cy z0 nL cc own w) {n T0 : Nat} {i : Int} {x : Int} (ht : Tg h n = T0) (hT0 : T0 % 1000 = 103) {k0 : Nat} (hl0 : Ln h n = k0) (hi : 0 ≤ i ∧ i < (k0 : Int)) (hx : 0 ≤ x ∧ x ≤ 65535) (d : decode cc pc = .ok (.castore, 1)) (k : ∀ h1, sI h n i.toNat x = h1 → GW p l e R s m args below meth c D cy z0 nL Q (pc + 1) lv st h1 cells slots) : GW p l e R s m args below meth c D cy z0 nL Q pc lv (.inl x :: .inl i :: .inr (.inr n) :: st) h cells slots := fun H locs ls hH hS hl => by
  obtain ⟨a, L, q, rfl, ha, hL, hP, hD, hq⟩ := pl_at hH (n := n) (fun q => by rw [ht] at q; subst q; exact absurd hT0 (by omega))
  have hq2 := hq
  rw [ceO_ar (t := 3) ht hT0] at hq2
  subst hl0
  refine r_cast C.1 C.2.1 hP hD hS q 3 hq2 rfl i.toNat (i32_nI hi.1) (by omega) (hH.2.2.2.2 _) d (fun H1 locs1 hP1 hD1 hS1 => k _ rfl H1 locs1 ls ?_ hS1 hl)
  refine pl_put hL hD ha hq hP1 hD1 (fun _ => rfl) (fun b hb => ceO_sI hb) ?_ hH.2.1 (fun n2 j2 => up2_inR hH.2.2.1 (by omega) n2 j2) hH.2.2.2.1 hH.2.2.2.2
  rw [ceO_ar (t := 3) (show Tg (sI h (a + 1) i.toNat x) (a + 1) = T0 from ht) hT0]
  have e1 : Iv (sI h (a + 1) i.toNat x) (a + 1) = fun z => if z = i.toNat then x else Iv h (a + 1) z := up2_self _ _ _ _
  rw [e1]
  show Sum.inl (cy 3, _, _) = Sum.inl (cy 3, _, _)
  congr 3
  show Sum.inl _ = Sum.inl _
  congr 1
  funext z
  show i32 (if z = i.toNat then x else Iv h (a + 1) z) = upd (fun i => i32 (Iv h (a + 1) i)) i.toNat (vp_nar .char (i32 x)) z
  unfold upd
  by_cases hz : z = i.toNat
  · subst hz
    simp only [if_true]
    rw [c_nar hx]
  · simp only [hz, if_false]
theorem g_aast (C : Cx p l R s m args meth c D cy z0 nL cc own w) {n t w1 T0 T1 : Nat} {i : Int} {rr : vw_C} {ci : Nat} (ht : Tg h n = T0) (hT0 : T0 % 1000 = 100 + t) (h4 : 4 ≤ t) (hty : (TY cy)[t]? = some (cy t, .object rr.1)) (hw : Tg h w1 = T1) (hT1 : T1 % 1000 = ci + 1) (hc : vwCl[ci]? = some rr) {k0 : Nat} (hl0 : Ln h n = k0) (hi : 0 ≤ i ∧ i < (k0 : Int)) (d : decode cc pc = .ok (.aastore, 1)) (k : ∀ h1, sR h n i.toNat w1 = h1 → GW p l e R s m args below meth c D cy z0 nL Q (pc + 1) lv st h1 cells slots) : GW p l e R s m args below meth c D cy z0 nL Q pc lv (.inr (.inr w1) :: .inl i :: .inr (.inr n) :: st) h cells slots := fun H locs ls hH hS hl => by
  obtain ⟨a, L, q, rfl, ha, hL, hP, hD, hq⟩ := pl_at hH (n := n) (fun q => by rw [ht] at q; subst q; exact absurd hT0 (by omega))
  subst hl0
  have hw0 : Tg h w1 ≠ 0 := fun q => by rw [hw] at q; subst q; exact absurd hT1 (by omega)
  cases w1 with
  | zero => exact absurd hH.2.1 hw0
  | succ b =>
    obtain ⟨q3, hq3⟩ := va_pl_get (X := []) (f := ceO cy h) ((hL b).mpr hw0)
    simp only [List.nil_append] at hq3
    rw [ceO_ob hw hT1 (vw_lt hc)] at hq3
    have hq2 := hq
    rw [ceO_ar (t := t) ht hT0, ar_q h4] at hq2
    refine r_aast C.1 C.2.1 hP hD hS q t q3 ci hq2 hty hq3 hc i.toNat (i32_nI hi.1) (by omega) (hH.2.2.2.2 _) d (fun H1 locs1 hP1 hD1 hS1 => k _ rfl H1 locs1 ls ?_ hS1 hl)
    refine pl_put hL hD ha hq hP1 hD1 (fun _ => rfl) (fun b hb => ceO_sR hb) ?_ hH.2.1 hH.2.2.1 hH.2.2.2.1 hH.2.2.2.2
    rw [ceO_ar (t := t) (show Tg (sR h (a + 1) i.toNat (b + 1)) (a + 1) = T0 from ht) hT0, ar_q h4]
    have e1 : Rv (sR h (a + 1) i.toNat (b + 1)) (a + 1) = fun z => if z = i.toNat then b + 1 else Rv h (a + 1) z := up2_self _ _ _ _
    rw [e1]
    refine congrArg (fun w => (Sum.inl (cy t, Ln h (a + 1), Sum.inr (Sum.inr (Sum.inr (Sum.inr w)))) : va_E)) ?_
    funext z
    unfold va_up
    by_cases hz : z = i.toNat
    · subst hz
      simp [opt]
    · simp [hz]
theorem z_clamp {x : Int} (h : inR x) (h0 : 0 ≤ x) : (i32 x).toNatClampNeg = x.toNat := by
  rw [i32_nI h0]
  exact nI_clamp (by omega)
theorem z_nneg {x : Int} (h : inR x) (h0 : 0 ≤ x) : ¬ i32 x < 0 := by
  rw [Int32.lt_iff_toInt_lt, i32_toInt h]
  show ¬ x < 0
  omega
theorem dv_all {ty : Nat → FieldType} {c N : Nat} (hN : nf c = N) (hd : (List.range N).all (fun j => decide (defaultValue (ty j) = (if ft c j = 2 then .long 0 else if ft c j = 4 then .null else .int 0))) = true) : (List.range N).map (fun j => defaultValue (ty j)) = fsR c (fun _ => 0) (fun _ => 0) (fun _ => 0) := by
  unfold fsR
  rw [hN]
  apply List.map_congr_left
  intro j hj
  have h1 := List.all_eq_true.mp hd j hj
  simp only [decide_eq_true_eq] at h1
  rw [h1]
  by_cases h2 : ft c j = 2
  · rw [if_pos h2]; simp only [fvR, h2]; rfl
  · rw [if_neg h2]
    by_cases h4 : ft c j = 4
    · rw [if_pos h4]; simp only [fvR, h4]; rfl
    · rw [if_neg h4]
      unfold fvR
      split
      · exact absurd (by assumption) h2
      · exact absurd (by assumption) h4
      · rfl
theorem g_new (C : Cx p l R s m args meth c D cy z0 nL cc own w) {Cn : String} {T : u_T} {N c0 idx : Nat} (T0 : Nat) (hT0 : T0 % 1000 = c0 + 1) (hc : vwCl[c0]? = some (Cn, T, N)) (hN : nf c0 = N) (hin : ∀ w ∈ u_ws Cn T N, w ∈ uu) (ty : Nat → FieldType) (hty : ∀ k, k < N → parseFieldDescriptor (T k).2.2.1 = some (ty k)) (hcl : Cond.classLink own idx Cn ∈ uu) (hinst : Cond.instantiable Cn N ∈ uu) (hini : Cond.initialized Cn ∈ uu) (hd : (List.range N).all (fun j => decide (defaultValue (ty j) = (if ft c0 j = 2 then .long 0 else if ft c0 j = 4 then .null else .int 0))) = true) (hcells : cells + 1 ≤ R.cells) (hslots : slots + N ≤ R.slots) (d : decode cc pc = .ok (.new idx, 3)) (k : ∀ n, n ≠ 0 → Tg h n = 0 → ∀ h1, nw h n T0 0 = h1 → GW p l e R s m args below meth c D cy z0 nL Q (pc + 3) lv (.inr (.inr n) :: st) h1 (cells + 1) (slots + N)) : GW p l e R s m args below meth c D cy z0 nL Q pc lv st h cells slots := fun H locs ls hH hS hl => by
  have hH2 := hH
  obtain ⟨⟨L, hL, hP, hD⟩, -⟩ := hH
  refine r_new C.1 hin ty hty hcl hinst hini C.2.1 hP hD hS (fun q hq => Nat.le_trans C.2.2.1 hq) hc (dv_all hN hd) hcells hslots d (fun q H1 hP1 hD1 hS1 => ?_)
  have hf := pl_fresh hD1
  exact k (q + 1) (by omega) (Classical.byContradiction fun z => hf ((hL q).mpr z)) _ rfl H1 locs ls (pl_new hH2 hL hP1 hD1 hf (fun z => by subst z; exact absurd hT0 (by omega)) (by omega) (by unfold ceR; rw [hT0, if_pos (by have := vw_lt hc; omega), Nat.add_sub_cancel])) hS1 hl
theorem g_newa (C : Cx p l R s m args meth c D cy z0 nL cc own w) {t : Nat} {x : Int} {atype : ArrayType} {ty : FieldType} (T0 : Nat) (hT0 : T0 % 1000 = 100 + t) (hx : inR x) (h0' : 0 ≤ x) (hty : newarray.typeOf atype = ty) (harr : Cond.arrayClass (newarray.typeOf atype) ∈ uu) (ht0 : (TY cy)[t]? = some (cy t, ty)) (ha : ∀ cA : ClassId, vp_cell cA (arR t x.toNat (fun _ => 0) (fun _ => 0) (fun _ => 0)) = arrV cA x.toNat (fun _ => defaultValue ty)) (hb : x.toNat * componentBytes ty ≤ 536870912) (hcells : cells + 1 ≤ R.cells) {N : Nat} (hxN : x.toNat ≤ N) (hslots : slots + N ≤ R.slots) (d : decode cc pc = .ok (.newarray atype, 2)) (k : ∀ n, n ≠ 0 → Tg h n = 0 → ∀ h1, nw h n T0 x.toNat = h1 → GW p l e R s m args below meth c D cy z0 nL Q (pc + 2) lv (.inr (.inr n) :: st) h1 (cells + 1) (slots + N)) : GW p l e R s m args below meth c D cy z0 nL Q pc lv (.inl x :: st) h cells slots := fun H locs ls hH hS hl => by
  have hH2 := hH
  obtain ⟨⟨L, hL, hP, hD⟩, -⟩ := hH
  refine r_newa C.1 hty harr C.2.1 hP hD hS (fun q hq => Nat.le_trans C.2.2.1 hq) t ht0 ha (z_nneg hx h0') (z_clamp hx h0') hb hcells (by omega) d (fun q H1 hP1 hD1 hS1 => ?_)
  have hf := pl_fresh hD1
  refine W.widen (Nat.le_refl _) (Nat.add_le_add_left hxN slots) ?_
  exact k (q + 1) (by omega) (Classical.byContradiction fun z => hf ((hL q).mpr z)) _ rfl H1 locs ls (pl_new hH2 hL hP1 hD1 hf (fun z => by subst z; exact absurd hT0 (by omega)) (by omega) (by unfold ceR; rw [hT0, if_neg (by omega), Nat.add_sub_cancel_left])) hS1 hl
theorem g_newq (C : Cx p l R s m args meth c D cy z0 nL cc own w) {t : Nat} {x : Int} {C0 : String} {idx : Nat} (T0 : Nat) (hT0 : T0 % 1000 = 100 + t) (hx : inR x) (h0' : 0 ≤ x) (h4 : 4 ≤ t) (hcl : Cond.classLink own idx C0 ∈ uu) (hov : va_AO C0 s) (ht0 : (TY cy)[t]? = some (cy t, .object C0)) (hb : x.toNat * 4 ≤ 536870912) (hcells : cells + 1 ≤ R.cells) (hslots : slots + x.toNat ≤ R.slots) (d : decode cc pc = .ok (.anewarray idx, 3)) (k : ∀ n, n ≠ 0 → Tg h n = 0 → ∀ h1, nw h n T0 x.toNat = h1 → GW p l e R s m args below meth c D cy z0 nL Q (pc + 3) lv (.inr (.inr n) :: st) h1 (cells + 1) (slots + x.toNat)) : GW p l e R s m args below meth c D cy z0 nL Q pc lv (.inl x :: st) h cells slots := fun H locs ls hH hS hl => by
  have hH2 := hH
  obtain ⟨⟨L, hL, hP, hD⟩, -⟩ := hH
  refine r_newq C.1 hcl hov C.2.1 hP hD hS (fun q hq => Nat.le_trans C.2.2.1 hq) t ht0 (z_nneg hx h0') (z_clamp hx h0') hb hcells hslots d (fun q H1 hP1 hD1 hS1 => ?_)
  have hf := pl_fresh hD1
  exact k (q + 1) (by omega) (Classical.byContradiction fun z => hf ((hL q).mpr z)) _ rfl H1 locs ls (pl_new hH2 hL hP1 hD1 hf (fun z => by subst z; exact absurd hT0 (by omega)) (by omega) (by unfold ceR; rw [hT0, if_neg (by omega), Nat.add_sub_cancel_left, ar_q h4]; rfl)) hS1 hl
theorem g_rt {n T0 T1 : Nat} (hn : Tg h n = T0 + 1) (hb : (T1 + 1) % 1000 = (T0 + 1) % 1000) (k : ∀ h1, rt h n (T1 + 1) = h1 → GW p l e R s m args below meth c D cy z0 nL Q pc lv st h1 cells slots) : GW p l e R s m args below meth c D cy z0 nL Q pc lv st h cells slots := fun H locs ls hH hS hl =>
  k _ rfl H locs ls (pl_rt hH (by omega) (by omega) (by rw [hn]; exact hb)) hS hl
end GH1
