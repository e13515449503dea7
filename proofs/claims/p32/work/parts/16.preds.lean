/-! PREDS: what holds beyond ranges, in the class -/
theorem bAnd_127 (x : Int) : 0 ≤ bAnd x 127 ∧ bAnd x 127 ≤ 127 := bAnd_k (k := 7) (by decide)
def NN (h : Hp) (a : Nat) (n : Int) : Prop := ∀ k : Nat, (k : Int) < n → ¬ Rv h a k = 0
theorem nn_get {h : Hp} {a v : Nat} {n i : Int} (p : NN h a n) (hi : 0 ≤ i ∧ i < n) (e : Rv h a i.toNat = v) : ¬ v = 0 := by
  rw [← e]; exact p i.toNat (by omega)
theorem NN_le {h : Hp} {a : Nat} {n m : Int} (p : NN h a n) (hm : m ≤ n) : NN h a m := fun k hk => p k (by omega)
theorem NN_fx {wr : List Nat} {h h1 : Hp} {a T : Nat} {n : Int} (F : Fx wr h h1) (t : Tg h a = T + 1) (hT : ¬ (T + 1) % 1000 < 100) (hw : wr.elem ((T + 1) * 200) = false) (p : NN h a n) : NN h1 a n := fun k hk => by rw [fxRa F t hT hw]; exact p k hk
def BreakOk (h : Hp) (b : Nat) : Prop := (Iv h b 1 = 1 → Iv h b 0 % 12 + 1 < 12 ∧ Iv h b 0 / 12 + Iv h b 2 ≤ 8) ∧ (Iv h b 1 = 0 → Iv h b 0 / 12 + 1 < 8 ∧ Iv h b 0 % 12 + Iv h b 2 ≤ 12)
def BOK (h : Hp) (a : Nat) (n : Int) : Prop := ∀ k : Nat, (k : Int) < n → ¬ Rv h a k = 0 ∧ BreakOk h (Rv h a k)
theorem BOK.nn {h : Hp} {a : Nat} {n : Int} (p : BOK h a n) : NN h a n := fun k hk => (p k hk).1
theorem bok_get {h : Hp} {a v : Nat} {n i : Int} (p : BOK h a n) (hi : 0 ≤ i ∧ i < n) (e : Rv h a i.toNat = v) : BreakOk h v := by
  rw [← e]; exact (p i.toNat (by omega)).2
theorem BOK_le {h : Hp} {a : Nat} {n m : Int} (p : BOK h a n) (hm : m ≤ n) : BOK h a m := fun k hk => p k (by omega)
theorem BOK_fx {wr : List Nat} {h h1 : Hp} {a : Nat} {n : Int} (O : Okh h) (F : Fx wr h h1) (t : Tg h a = 39105) (hw : wr.elem (39105 * 200) = false) (hw0 : wr.elem 200 = false) (hw1 : wr.elem 201 = false) (hw2 : wr.elem 202 = false) (p : BOK h a n) : BOK h1 a n := fun k hk => by
  have e : Rv h1 a k = Rv h a k := fxRa (T := 39104) F t ar_39105 hw
  obtain ⟨q1, q2⟩ := p k hk
  have tb : Tg h (Rv h a k) = 1 := ok_Na O t ar_39105 rE_39105_0 rfl q1
  rw [e]
  refine ⟨q1, ?_⟩
  unfold BreakOk
  rw [fxI (T := 0) (i := 0) F tb hw0, fxI (T := 0) (i := 1) F tb hw1, fxI (T := 0) (i := 2) F tb hw2]
  exact q2
def SgOk (h : Hp) (s : Nat) : Prop := ¬ Iv h s 8 = -1 → 0 ≤ Iv h s 7
def SOK (h : Hp) (a : Nat) (n : Int) : Prop := ∀ k : Nat, (k : Int) < n → ¬ Rv h a k = 0 ∧ SgOk h (Rv h a k)
theorem SOK.nn {h : Hp} {a : Nat} {n : Int} (p : SOK h a n) : NN h a n := fun k hk => (p k hk).1
theorem sok_get {h : Hp} {a v : Nat} {n i : Int} (p : SOK h a n) (hi : 0 ≤ i ∧ i < n) (e : Rv h a i.toNat = v) : SgOk h v := by
  rw [← e]; exact (p i.toNat (by omega)).2
theorem SOK_le {h : Hp} {a : Nat} {n m : Int} (p : SOK h a n) (hm : m ≤ n) : SOK h a m := fun k hk => p k (by omega)
theorem SOK_fx {wr : List Nat} {h h1 : Hp} {a : Nat} {n : Int} (O : Okh h) (F : Fx wr h h1) (t : Tg h a = 38104) (hw : wr.elem (38104 * 200) = false) (hw0 : wr.elem 1807 = false) (hw1 : wr.elem 1808 = false) (p : SOK h a n) : SOK h1 a n := fun k hk => by
  have e : Rv h1 a k = Rv h a k := fxRa (T := 38103) F t ar_38104 hw
  obtain ⟨q1, q2⟩ := p k hk
  have tb : Tg h (Rv h a k) = 9 := ok_Na O t ar_38104 rE_38104_0 rfl q1
  rw [e]
  refine ⟨q1, ?_⟩
  unfold SgOk
  rw [fxI (T := 8) (i := 7) F tb hw0, fxI (T := 8) (i := 8) F tb hw1]
  exact q2
def SInv (h : Hp) (s : Nat) : Prop := SOK h (Rv h s 1) (Iv h s 3) ∧ BOK h (Rv h s 2) (Iv h s 4)
def RulesOk (h : Hp) (r : Nat) : Prop := ∀ k : Nat, (k : Int) < Iv h r 13 → (Iv h (Rv h r 14) k = 0 → Iv h (Rv h r 15) k ≤ 9) ∧ Iv h (Rv h r 16) k ≤ (Ln h (Rv h r 17) : Int)
theorem RulesOk_fx {wr : List Nat} {h h1 : Hp} {r : Nat} (O : Okh h) (F : Fx wr h h1) (t : Tg h r = 6) (hw : ([1213, 1214, 1215, 1216, 1217, 30100 * 200, 32100 * 200, 34100 * 200] : List Nat).all (fun e => !wr.elem e) = true) (p : RulesOk h r) : RulesOk h1 r := by
  simp only [List.all_cons, List.all_nil, Bool.and_true, Bool.and_eq_true, Bool.not_eq_true'] at hw
  obtain ⟨w1, w2, w3, w4, w5, w6, w7, w8⟩ := hw
  intro k hk
  have e14 : Rv h1 r 14 = Rv h r 14 := fxR (T := 5) F t w2
  have e15 : Rv h1 r 15 = Rv h r 15 := fxR (T := 5) F t w3
  have e16 : Rv h1 r 16 = Rv h r 16 := fxR (T := 5) F t w4
  have e17 : Rv h1 r 17 = Rv h r 17 := fxR (T := 5) F t w5
  have t14 := ok_R O t rE_6_14 rfl
  have t15 := ok_R O t rE_6_15 rfl
  have t16 := ok_R O t rE_6_16 rfl
  have t17 := ok_R O t rE_6_17 rfl
  rw [e14, e15, e16, e17, fxIa (T := 30099) F t14 ar_30100 w6, fxIa (T := 32099) F t15 ar_32100 w7, fxIa (T := 34099) F t16 ar_34100 w8, fxL F t17]
  rw [fxI (T := 5) (i := 13) F t w1] at hk
  exact p k hk
theorem mm_rng {x y v lo hi lo2 hi2 l u : Int} (f : lo ≤ x ∧ x ≤ hi) (g : lo2 ≤ y ∧ y ≤ hi2) (q : v = x ∨ v = y) (h1 : l ≤ lo ∧ l ≤ lo2) (h2 : hi ≤ u ∧ hi2 ≤ u) : l ≤ v ∧ v ≤ u := by omega
section PR1
variable {p : Program} {l : Launch} {e : Env} {R : Room} {s : State} {m : MethodId} {args : Array Value} {below : List Frame} {meth : Method} {c : Code} {cells slots : Nat} {Q : State → Prop}
variable {D : va_G} {cy : Nat → ClassId} {cc : ByteArray} {z0 nL : Nat} {own : String} {pc : Nat} {lv : List (Nat × LV)} {st : List LV} {h : Hp} {w : Nat → Nat}
theorem g_inegW (C : Cx p l R s m args meth c D cy z0 nL cc own w) {x : Int} (d : decode cc pc = .ok (.ineg, 1)) (k : GW p l e R s m args below meth c D cy z0 nL Q (pc + 1) lv (.inl (w32 (-x)) :: st) h cells slots) : GW p l e R s m args below meth c D cy z0 nL Q pc lv (.inl x :: st) h cells slots := fun H locs ls hH hS hl => r_ineg C.1 d ((ofneg x).trans (i32_w32 _).symm) (k H locs ls hH hS hl)
theorem g_mmax (C : Cx p l R s m args meth c D cy z0 nL cc own w) {x y : Int} {idx : Nat} (hx : inR x) (hy : inR y) (v1 : Cond.methodLink own idx Lib.Math.max.name ∈ uu) (v2 : Cond.static Lib.Math.max.name ∈ uu) (v3 : Cond.initialized "java/lang/Math" ∈ uu) (v4 : Cond.code Lib.Math.max.name Lib.Math.max.code 2 (some .int) ∈ uu) (hf : 1 ≤ R.frames) (hlo : lvn st + 13 ≤ R.locals) (hc : cells ≤ R.cells) (hs : slots ≤ R.slots) (d : decode cc pc = .ok (.invokestatic idx, 3)) (k : ∀ v, (v = x ∨ v = y) → GW p l e R s m args below meth c D cy z0 nL Q (pc + 3) lv (.inl v :: st) h cells slots) : GW p l e R s m args below meth c D cy z0 nL Q pc lv (.inl y :: .inl x :: st) h cells slots := fun H locs ls hH hS hl => by
  have ht := C.1.2.2.2.2
  refine va_mmax C.1.1 C.1.2.1 (C.1.2.2.1.trans hl.1.symm) C.1.2.2.2.1 (ht _ v1) (ht _ v2) (ht _ v3) (ht _ v4) hf (by rw [catL]; exact hlo) hc hs d ?_
  split
  · exact k y (Or.inr rfl) H locs ls hH hS hl
  · exact k x (Or.inl rfl) H locs ls hH hS hl
theorem g_mmin (C : Cx p l R s m args meth c D cy z0 nL cc own w) {x y : Int} {idx : Nat} (hx : inR x) (hy : inR y) (v1 : Cond.methodLink own idx Lib.Math.min.name ∈ uu) (v2 : Cond.static Lib.Math.min.name ∈ uu) (v3 : Cond.initialized "java/lang/Math" ∈ uu) (v4 : Cond.code Lib.Math.min.name Lib.Math.min.code 2 (some .int) ∈ uu) (hf : 1 ≤ R.frames) (hlo : lvn st + 13 ≤ R.locals) (hc : cells ≤ R.cells) (hs : slots ≤ R.slots) (d : decode cc pc = .ok (.invokestatic idx, 3)) (k : ∀ v, (v = x ∨ v = y) → GW p l e R s m args below meth c D cy z0 nL Q (pc + 3) lv (.inl v :: st) h cells slots) : GW p l e R s m args below meth c D cy z0 nL Q pc lv (.inl y :: .inl x :: st) h cells slots := fun H locs ls hH hS hl => by
  have ht := C.1.2.2.2.2
  refine va_mmin C.1.1 C.1.2.1 (C.1.2.2.1.trans hl.1.symm) C.1.2.2.2.1 (ht _ v1) (ht _ v2) (ht _ v3) (ht _ v4) hf (by rw [catL]; exact hlo) hc hs d ?_
  split
  · exact k y (Or.inr rfl) H locs ls hH hS hl
  · exact k x (Or.inl rfl) H locs ls hH hS hl
theorem g_mabs (C : Cx p l R s m args meth c D cy z0 nL cc own w) {x : Int} {idx : Nat} (v1 : Cond.methodLink own idx Lib.Math.abs.name ∈ uu) (v2 : Cond.static Lib.Math.abs.name ∈ uu) (v3 : Cond.initialized "java/lang/Math" ∈ uu) (v4 : Cond.code Lib.Math.abs.name Lib.Math.abs.code 1 (some .int) ∈ uu) (hf : 1 ≤ R.frames) (hlo : lvn st + 13 ≤ R.locals) (hc : cells ≤ R.cells) (hs : slots ≤ R.slots) (d : decode cc pc = .ok (.invokestatic idx, 3)) (k : ∀ v, inR v → GW p l e R s m args below meth c D cy z0 nL Q (pc + 3) lv (.inl v :: st) h cells slots) : GW p l e R s m args below meth c D cy z0 nL Q pc lv (.inl x :: st) h cells slots := fun H locs ls hH hS hl => by
  have ht := C.1.2.2.2.2
  refine va_mabs C.1.1 C.1.2.1 (C.1.2.2.1.trans hl.1.symm) C.1.2.2.2.1 (ht _ v1) (ht _ v2) (ht _ v3) (ht _ v4) hf (by rw [catL]; exact hlo) hc hs d ?_
  have h1 := k (if 0 ≤ i32 x then i32 x else 0 - i32 x).toInt (inR_of _) H locs ls hH hS hl
  simpa [toV, i32_of] using h1
end PR1
