/-! PREDS of the whole object -/
def BkOk (h : Hp) (b : Nat) : Prop := (∀ k : Nat, (k : Int) < Iv h b 2 → ¬ Rv h (Rv h b 1) k = 0 ∧ RulesOk h (Rv h (Rv h b 1) k)) ∧ RulesOk h (Rv h b 3)
theorem BkOk_fx {wr : List Nat} {h h1 : Hp} {b : Nat} (O : Okh h) (F : Fx wr h h1) (t : Tg h b = 5) (hw : ([1001, 1002, 1003, 22108 * 200] : List Nat).all (fun e => !wr.elem e) = true) (hw2 : ([1213, 1214, 1215, 1216, 1217, 30100 * 200, 32100 * 200, 34100 * 200] : List Nat).all (fun e => !wr.elem e) = true) (p : BkOk h b) : BkOk h1 b := by
  simp only [List.all_cons, List.all_nil, Bool.and_true, Bool.and_eq_true, Bool.not_eq_true'] at hw
  obtain ⟨w1, w2, w3, w4⟩ := hw
  have e1 : Rv h1 b 1 = Rv h b 1 := fxR (T := 4) F t w1
  have e2 : Iv h1 b 2 = Iv h b 2 := fxI (T := 4) F t w2
  have e3 : Rv h1 b 3 = Rv h b 3 := fxR (T := 4) F t w3
  have t1 := ok_R O t rE_5_1 rfl
  have t3 := ok_R O t rE_5_3 rfl
  refine ⟨fun k hk => ?_, ?_⟩
  · rw [e2] at hk
    obtain ⟨q1, q2⟩ := p.1 k hk
    rw [e1, fxRa (T := 22107) F t1 ar_22108 w4]
    exact ⟨q1, RulesOk_fx O F (ok_Na O t1 ar_22108 rE_22108_0 rfl q1) hw2 q2⟩
  · rw [e3]
    exact RulesOk_fx O F t3 hw2 p.2
def ND (h : Hp) : Prop := ∀ m, ¬ Tg h m = 2006 ∧ ¬ Tg h m = 1006
theorem ND_fx {wr : List Nat} {h h1 : Hp} (F : Fx wr h h1) (w1 : wr.elem 1000002006 = false) (w2 : wr.elem 1000001006 = false) (p : ND h) : ND h1 := fun m => by
  by_cases z : Tg h m = 0
  · rcases F.2 m z with q | q
    · rw [q]; exact ⟨by decide, by decide⟩
    · constructor
      · intro e; rw [e] at q; rw [w1] at q; exact absurd q (by decide)
      · intro e; rw [e] at q; rw [w2] at q; exact absurd q (by decide)
  · rw [(F.1 m z).1]; exact p m
def XInv (h : Hp) (x : Nat) : Prop := SOK h (Rv h x 3) (Iv h x 4) ∧ BOK h (Rv h x 8) (Iv h x 9) ∧ NN h (Rv h x 11) (Iv h x 12) ∧ (Iv h x 15 = 1 → NN h (Rv h x 14) (bShl 1 (Iv h x 9))) ∧ Rv h (Rv h x 13) 1 = Rv h x 3 ∧ Rv h (Rv h x 13) 2 = Rv h x 8 ∧ Iv h (Rv h x 13) 3 ≤ Iv h x 4 ∧ Iv h (Rv h x 13) 4 ≤ Iv h x 9 ∧ BkOk h (Rv h x 6) ∧ RulesOk h (Rv h x 7) ∧ ND h
def xdeps : List Nat := [1000002006, 1000001006, 2203, 2204, 2206, 2207, 2208, 2209, 2211, 2212, 2213, 2214, 2215, 1401, 1402, 1403, 1404, 38104 * 200, 39105 * 200, 48106 * 200, 49107 * 200, 1807, 1808, 200, 201, 202, 1001, 1002, 1003, 22108 * 200, 1213, 1214, 1215, 1216, 1217, 30100 * 200, 32100 * 200, 34100 * 200]
theorem xd_of {wr : List Nat} (hw : xdeps.all (fun e => !wr.elem e) = true) {e : Nat} (he : xdeps.elem e = true) : wr.elem e = false := by
  have := List.all_eq_true.mp hw e (List.elem_iff.mp he)
  simpa using this
theorem XInv_fx {wr : List Nat} {h h1 : Hp} {x : Nat} (O : Okh h) (F : Fx wr h h1) (t : Tg h x = 11) (hw : xdeps.all (fun e => !wr.elem e) = true) (p : XInv h x) : XInv h1 x := by
  obtain ⟨p1, p2, p3, p4, p5, p6, p7, p8, p9, p10, p11⟩ := p
  have t3 := ok_R O t rE_11_3 rfl
  have t8 := ok_R O t rE_11_8 rfl
  have t11 := ok_R O t rE_11_11 rfl
  have t14 := ok_R O t rE_11_14 rfl
  have t13 := ok_R O t rE_11_13 rfl
  have t6 := ok_R O t rE_11_6 rfl
  have t7 := ok_R O t rE_11_7 rfl
  have hR : ([1213, 1214, 1215, 1216, 1217, 30100 * 200, 32100 * 200, 34100 * 200] : List Nat).all (fun e => !wr.elem e) = true := List.all_eq_true.mpr (fun e he => by
    have h2 : xdeps.elem e = true := by
      have : ∀ e ∈ ([1213, 1214, 1215, 1216, 1217, 30100 * 200, 32100 * 200, 34100 * 200] : List Nat), xdeps.elem e = true := by decide
      exact this e he
    have := xd_of hw h2
    simp only [this, Bool.not_false])
  have hB : ([1001, 1002, 1003, 22108 * 200] : List Nat).all (fun e => !wr.elem e) = true := List.all_eq_true.mpr (fun e he => by
    have h2 : xdeps.elem e = true := by
      have : ∀ e ∈ ([1001, 1002, 1003, 22108 * 200] : List Nat), xdeps.elem e = true := by decide
      exact this e he
    have := xd_of hw h2
    simp only [this, Bool.not_false])
  unfold XInv
  rw [fxR (T := 10) (i := 3) F t (xd_of hw rfl), fxI (T := 10) (i := 4) F t (xd_of hw rfl), fxR (T := 10) (i := 8) F t (xd_of hw rfl), fxI (T := 10) (i := 9) F t (xd_of hw rfl), fxR (T := 10) (i := 11) F t (xd_of hw rfl), fxI (T := 10) (i := 12) F t (xd_of hw rfl), fxI (T := 10) (i := 15) F t (xd_of hw rfl), fxR (T := 10) (i := 14) F t (xd_of hw rfl), fxR (T := 10) (i := 13) F t (xd_of hw rfl), fxR (T := 10) (i := 6) F t (xd_of hw rfl), fxR (T := 10) (i := 7) F t (xd_of hw rfl)]
  rw [fxR (T := 6) (i := 1) F t13 (xd_of hw rfl), fxR (T := 6) (i := 2) F t13 (xd_of hw rfl), fxI (T := 6) (i := 3) F t13 (xd_of hw rfl), fxI (T := 6) (i := 4) F t13 (xd_of hw rfl)]
  exact ⟨SOK_fx O F t3 (xd_of hw rfl) (xd_of hw rfl) (xd_of hw rfl) p1, BOK_fx O F t8 (xd_of hw rfl) (xd_of hw rfl) (xd_of hw rfl) (xd_of hw rfl) p2, NN_fx (T := 48105) F t11 ar_48106 (xd_of hw rfl) p3, fun z => NN_fx (T := 49106) F t14 ar_49107 (xd_of hw rfl) (p4 z), p5, p6, p7, p8, BkOk_fx O F t6 hB hR p9, RulesOk_fx O F t7 hR p10, ND_fx F (xd_of hw rfl) (xd_of hw rfl) p11⟩
theorem gr_fx {wr : List Nat} {h h1 : Hp} {g : Nat} {v c : Int} (F : Fx wr h h1) (t : Tg h g = 49107) (hw : wr.elem (49107 * 200) = false) (p : v = 1 → NN h g (bShl 1 c)) : v = 1 → NN h1 g (bShl 1 c) := fun z => NN_fx (T := 49106) F t ar_49107 hw (p z)
theorem NN_set {h h1 : Hp} {a v : Nat} {n i : Int} (p : NN h a n) (hh : sR h a i.toNat v = h1) (hv : ¬ v = 0) (h0 : 0 ≤ i) (hn : i ≤ n) : NN h1 a (i + 1) := fun k hk => by
  by_cases e : k = i.toNat
  · subst e; rw [pR_e hh]; exact hv
  · rw [pR_j hh e]; exact p k (by omega)
theorem NN_put {h h1 : Hp} {a v j : Nat} {n : Int} (p : NN h a n) (hh : sR h a j v = h1) (hv : ¬ v = 0) : NN h1 a n := fun k hk => by
  by_cases e : k = j
  · subst e; rw [pR_e hh]; exact hv
  · rw [pR_j hh e]; exact p k hk
/-! another tag for an object that is built -/
theorem enc_min (T j : Nat) : enc T j = enc T (min j 199) := by
  unfold enc
  rw [Nat.min_assoc, Nat.min_self]
theorem rI_min (T j : Nat) : rI T j = rI T (min j 199) := by unfold rI; rw [enc_min]
theorem rE_min (T j : Nat) : rE T j = rE T (min j 199) := by unfold rE; rw [enc_min]
theorem tab_I {T0 T1 : Nat} (h : (List.range 200).all (fun j => decide (rI T0 j = rI T1 j)) = true) (j : Nat) : rI T0 j = rI T1 j := by
  rw [rI_min T0, rI_min T1]
  have := List.all_eq_true.mp h (min j 199) (List.mem_range.mpr (by omega))
  simpa using this
theorem tab_E {T0 T1 : Nat} (h : (List.range 200).all (fun j => decide ((rE T0 j).1 = (rE T1 j).1 ∧ (rE T0 j).2.1 = (rE T1 j).2.1)) = true) (j : Nat) : (rE T0 j).1 = (rE T1 j).1 ∧ (rE T0 j).2.1 = (rE T1 j).2.1 := by
  rw [rE_min T0, rE_min T1]
  have := List.all_eq_true.mp h (min j 199) (List.mem_range.mpr (by omega))
  simpa using this
theorem tab_N {T0 : Nat} (js : List Nat) (h : (List.range 200).all (fun j => !(rE T0 j).2.2 || (decide (j < 199) && js.elem j)) = true) (j : Nat) (hj : (rE T0 j).2.2 = true) : js.elem j = true := by
  rw [rE_min] at hj
  have := List.all_eq_true.mp h (min j 199) (List.mem_range.mpr (by omega))
  rw [hj] at this
  simp only [Bool.not_true, Bool.false_or, Bool.and_eq_true, decide_eq_true_eq] at this
  have e : min j 199 = j := by omega
  rw [e] at this
  exact this.2
theorem Okh.rt1 {h h1 : Hp} {n T0 T1 : Nat} (O : Okh h) (t : Tg h n = T1 + 1) (hh : rt h n T0 = h1) (hu : ∀ T j, (rE T j).1 ≠ T1 + 1) (hI : ∀ j, rI T0 j = rI (T1 + 1) j) (hE : ∀ j, (rE T0 j).1 = (rE (T1 + 1) j).1 ∧ (rE T0 j).2.1 = (rE (T1 + 1) j).2.1) (hN : ∀ j, (rE T0 j).2.2 = true → ¬ Rv h n j = 0) : Okh h1 := by
  subst hh
  have hq : ∀ j, okR h T0 j (Rv h n j) := fun j => by
    have q := O.2.2.2.2 n j
    rw [t] at q
    unfold okR at q ⊢
    rw [(hE j).1, (hE j).2]
    rcases q with q | q | q
    · left
      refine ⟨q.1, ?_⟩
      cases hb : (rE T0 j).2.2 with
      | false => rfl
      | true => exact absurd q.1 (hN j hb)
    · exact Or.inr (Or.inl q)
    · exact Or.inr (Or.inr q)
  refine O.wT (nz_of O t) (by rw [t]; exact hu) (fun j => ?_) hq (fun j => ?_)
  · have q := O.2.1 n j
    rw [t] at q
    unfold okI at q ⊢
    rw [hI j]
    exact q
  · by_cases hE0 : (rE T0 j).1 = 0
    · exact Or.inr hE0
    · left
      intro e
      have q := O.2.2.2.2 n j
      rw [t, e] at q
      rcases q with q | q | q
      · exact nz_of O t q.1
      · exact hE0 ((hE j).1.trans q)
      · rw [t] at q
        exact hu (T1 + 1) j q.1.symm
theorem nt_of {wr : List Nat} {h0 h : Hp} {n : Nat} (F : Fx wr h0 h) (hn : Tg h n = 0) : Tg h0 n = 0 := Classical.byContradiction fun z => z ((F.1 n z).1.symm.trans hn)
theorem NN_ext {h : Hp} {a v : Nat} {i : Int} (p : NN h a i) (h0 : 0 ≤ i) (e : Rv h a i.toNat = v) (hv : ¬ v = 0) : NN h a (i + 1) := fun k hk => by
  by_cases q : k = i.toNat
  · subst q; rw [e]; exact hv
  · exact p k (by omega)
theorem nf_a (t : FieldType) (x : Nat) : narrow (.array t) (toV (.inr (.inr x))) = toV (.inr (.inr x)) ∧ fits (.array t) (toV (.inr (.inr x))) = true := by cases x <;> exact ⟨rfl, rfl⟩
theorem nf_o (t : String) (x : Nat) : narrow (.object t) (toV (.inr (.inr x))) = toV (.inr (.inr x)) ∧ fits (.object t) (toV (.inr (.inr x))) = true := by cases x <;> exact ⟨rfl, rfl⟩
section PR2
variable {p : Program} {l : Launch} {e : Env} {R : Room} {s : State} {m : MethodId} {args : Array Value} {below : List Frame} {meth : Method} {c : Code} {cells slots : Nat} {Q : State → Prop}
variable {D : va_G} {cy : Nat → ClassId} {cc : ByteArray} {z0 nL : Nat} {own : String} {pc : Nat} {lv : List (Nat × LV)} {st : List LV} {h : Hp} {w : Nat → Nat}
theorem g_iincW (C : Cx p l R s m args meth c D cy z0 nL cc own w) {i : Nat} {x n : Int} (lv' : List (Nat × LV)) (q : Nat) (hq : lv[q]? = some (i, .inl x)) (hn : i < nL) (hv : ls1 i (.inl (w32 (x + n))) lv = lv') (d : decode cc pc = .ok (.iinc i n, 3)) (k : GW p l e R s m args below meth c D cy z0 nL Q (pc + 3) lv' st h cells slots) : GW p l e R s m args below meth c D cy z0 nL Q pc lv st h cells slots := fun H locs ls hH hS hl => lv_iinc C.1.1 C.1.2.1 d hl (k := q) (x := i32 x) (by simp [lvl, hq, toV]) ((ofadd x n).trans (i32_w32 _).symm) hn (by rw [lvl_f1]; exact congrArg lvl hv) (fun ls1 hl1 => k H locs ls1 hH hS hl1)
end PR2
