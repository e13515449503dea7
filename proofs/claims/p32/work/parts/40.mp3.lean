/-! MP3: tokens that are cut, rules that are kept -/
def CU (h : Hp) (m : Nat) (n : Int) : Prop := ∀ k : Nat, (k : Int) < n → Iv h (Rv h m 4) k = 2 → 0 ≤ Jv h (Rv h m 6) k ∧ Jv h (Rv h m 6) k ≤ 9999
theorem CU_fx {wr : List Nat} {h h1 : Hp} {m : Nat} {n : Int} (O : Okh h) (F : Fx wr h h1) (t : Tg h m = 12) (hw : ([2404, 2406, 104100 * 200, 106102 * 200] : List Nat).all (fun e => !wr.elem e) = true) (p : CU h m n) : CU h1 m n := by
  unfold CU
  rw [mAI (j := 4) O F t rE_12_4 ar_104100 (w_of hw rfl) (w_of hw rfl), mAJ (j := 6) O F t rE_12_6 ar_106102 (w_of hw rfl) (w_of hw rfl)]
  exact p
theorem CU_wI {h h1 : Hp} {m a i : Nat} {n v : Int} (hh : sI h a i v = h1) (hi : n ≤ (i : Int)) (p : CU h m n) : CU h1 m n := fun k hk => by
  rw [pIR hh, pIR hh, pI_j hh (by omega), pIJ hh]
  exact p k hk
theorem CU_wJ {h h1 : Hp} {m a i : Nat} {n v : Int} (hh : sJ h a i v = h1) (hi : n ≤ (i : Int)) (p : CU h m n) : CU h1 m n := fun k hk => by
  rw [pJR hh, pJR hh, pJ_j hh (by omega), pJI hh]
  exact p k hk
theorem CU_new {h : Hp} {m : Nat} {n s v : Int} (h0 : 0 ≤ n) (es : Iv h (Rv h m 4) n.toNat = s) (ev : Jv h (Rv h m 6) n.toNat = v) (hv : s = 2 → 0 ≤ v ∧ v ≤ 9999) (p : CU h m n) : CU h m (n + 1) := fun k hk q => by
  by_cases e : (k : Int) < n
  · exact p k e q
  · have ek : k = n.toNat := by omega
    rw [ek, es] at q
    rw [ek, ev]
    exact hv q
theorem la_dig2 {V x : Int} (h : 0 ≤ V ∧ V ≤ 999999) (hx : 48 ≤ x ∧ x ≤ 57) : lS (lA (lM 10 V) x) 48 = 10 * V + x - 48 := by
  have e1 : lM 10 V = 10 * V := by
    show (Int64.ofInt 10 * Int64.ofInt V).toInt = _
    rw [← Int64.ofInt_mul]
    exact i64_toInt (by omega)
  have e2 : lA (10 * V) x = 10 * V + x := by
    show (Int64.ofInt (10 * V) + Int64.ofInt x).toInt = _
    rw [← Int64.ofInt_add]
    exact i64_toInt (by omega)
  rw [e1, e2]
  show (Int64.ofInt (10 * V + x) - Int64.ofInt 48).toInt = _
  rw [← Int64.ofInt_sub]
  exact i64_toInt (by omega)
def mqF (f a : Int) : Int := if f = 0 then 1502 - a else 0
theorem mqF_lt {f a f2 a2 : Int} (hf : f = 0) (ha : a ≤ 1501) (hp : f2 = 0 → a < a2) : (mqF f2 a2).toNat < (mqF f a).toNat := by
  unfold mqF
  rw [if_pos hf]
  split
  · rename_i z; have := hp z; omega
  · omega
/-! a book is taken over -/
def CP (h0 h : Hp) (m : Nat) (b k : Int) : Prop := ∀ g : Nat, (g = 25 ∨ g = 26 ∨ g = 27) → ∀ j : Nat, ((j : Int) < 24 * b ∨ 24 * b + 24 ≤ (j : Int) → Iv h (Rv h m g) j = Iv h0 (Rv h0 m g) j) ∧ (24 * b ≤ (j : Int) → (j : Int) < 24 * b + k → Iv h (Rv h m g) j = Iv h0 (Rv h0 m g) (192 + (j - 24 * b.toNat)) + (if g = 27 then 1600 * b - 12800 else 0))
theorem CP.start {h0 h : Hp} {m : Nat} {b : Int} (e25 : Iv h (Rv h m 25) = Iv h0 (Rv h0 m 25)) (e26 : Iv h (Rv h m 26) = Iv h0 (Rv h0 m 26)) (e27 : Iv h (Rv h m 27) = Iv h0 (Rv h0 m 27)) : CP h0 h m b 0 := fun g hg j => by
  refine ⟨fun _ => ?_, fun z1 z2 => absurd z2 (by omega)⟩
  rcases hg with e | e | e <;> subst e
  · rw [e25]
  · rw [e26]
  · rw [e27]
theorem CP.step {h0 h h1 h2 h3 : Hp} {m a25 a26 a27 : Nat} {b k v25 v26 v27 : Int} (O : Okh h) (t : Tg h m = 12) (hb : 0 ≤ b ∧ b ≤ 7) (hk : 0 ≤ k ∧ k ≤ 23) (r25 : Rv h m 25 = a25) (r26 : Rv h m 26 = a26) (r27 : Rv h m 27 = a27)
    (i25 i26 i27 : Nat) (x25 : (i25 : Int) = 24 * b + k) (x26 : (i26 : Int) = 24 * b + k) (x27 : (i27 : Int) = 24 * b + k)
    (k1 : sI h a25 i25 v25 = h1) (k2 : sI h1 a26 i26 v26 = h2) (k3 : sI h2 a27 i27 v27 = h3)
    (g25 : Iv h a25 (192 + k).toNat = v25) (g26 : Iv h a26 (192 + k).toNat = v26) (g27 : Iv h a27 (192 + k).toNat - 12800 + 1600 * b = v27) (p : CP h0 h m b k) : CP h0 h3 m b (k + 1) := by
  have t25 : Tg h a25 = 125100 := r25 ▸ ok_R O t rE_12_25 rfl
  have t26 : Tg h a26 = 126100 := r26 ▸ ok_R O t rE_12_26 rfl
  have t27 : Tg h a27 = 127100 := r27 ▸ ok_R O t rE_12_27 rfl
  have n1 : a25 ≠ a26 := ne_tag t25 t26 (by decide)
  have n2 : a25 ≠ a27 := ne_tag t25 t27 (by decide)
  have n3 : a26 ≠ a27 := ne_tag t26 t27 (by decide)
  have R : ∀ g, Rv h3 m g = Rv h m g := fun g => by rw [pIR k3, pIR k2, pIR k1]
  have y25 : ∀ j, Iv h3 a25 j = if j = i25 then v25 else Iv h a25 j := fun j => by
    rw [pI_n k3 n2, pI_n k2 n1]
    split
    · rename_i z; rw [z, pI_e k1]
    · rename_i z; exact pI_j k1 z
  have y26 : ∀ j, Iv h3 a26 j = if j = i26 then v26 else Iv h a26 j := fun j => by
    rw [pI_n k3 n3]
    split
    · rename_i z; rw [z, pI_e k2]
    · rename_i z; rw [pI_j k2 z, pI_n k1 (Ne.symm n1)]
  have y27 : ∀ j, Iv h3 a27 j = if j = i27 then v27 else Iv h a27 j := fun j => by
    split
    · rename_i z; rw [z, pI_e k3]
    · rename_i z; rw [pI_j k3 z, pI_n k2 (Ne.symm n3), pI_n k1 (Ne.symm n2)]
  intro g hg j
  have pg := p g hg
  have src := pg (192 + k).toNat
  have s0 := src.1 (Or.inr (by omega))
  rw [R]
  refine ⟨fun z => ?_, fun z1 z2 => ?_⟩
  · rw [← (pg j).1 z]
    rcases hg with e | e | e <;> subst e
    · rw [r25, y25, if_neg (by omega)]
    · rw [r26, y26, if_neg (by omega)]
    · rw [r27, y27, if_neg (by omega)]
  · by_cases e0 : (j : Int) < 24 * b + k
    · rw [← (pg j).2 z1 e0]
      rcases hg with e | e | e <;> subst e
      · rw [r25, y25, if_neg (by omega)]
      · rw [r26, y26, if_neg (by omega)]
      · rw [r27, y27, if_neg (by omega)]
    · have ej : 192 + (j - 24 * b.toNat) = (192 + k).toNat := by omega
      rw [ej, ← s0]
      rcases hg with e | e | e <;> subst e
      · rw [r25, y25, if_pos (by omega), if_neg (by decide), g25]; omega
      · rw [r26, y26, if_pos (by omega), if_neg (by decide), g26]; omega
      · rw [r27, y27, if_pos (by omega), if_pos rfl]; omega
theorem CP_fx {wr : List Nat} {h0 h h1 : Hp} {m : Nat} {b k : Int} (O : Okh h) (F : Fx wr h h1) (t : Tg h m = 12) (hw : ([2425, 2426, 2427, 125100 * 200, 126100 * 200, 127100 * 200] : List Nat).all (fun e => !wr.elem e) = true) (p : CP h0 h m b k) : CP h0 h1 m b k := fun g hg j => by
  have q := p g hg j
  rcases hg with e | e | e <;> subst e
  · rw [mAI (j := 25) O F t rE_12_25 ar_125100 (w_of hw rfl) (w_of hw rfl)]; exact q
  · rw [mAI (j := 26) O F t rE_12_26 ar_126100 (w_of hw rfl) (w_of hw rfl)]; exact q
  · rw [mAI (j := 27) O F t rE_12_27 ar_127100 (w_of hw rfl) (w_of hw rfl)]; exact q
def CO (h0 h : Hp) (m : Nat) (b k : Int) : Prop := ∀ j : Nat, ((j : Int) < 1600 * b ∨ 1600 * b + 1600 ≤ (j : Int) → Iv h (Rv h m 29) j = Iv h0 (Rv h0 m 29) j ∧ Iv h (Rv h m 30) j = Iv h0 (Rv h0 m 30) j) ∧ (1600 * b ≤ (j : Int) → (j : Int) < 1600 * b + k → Iv h (Rv h m 29) j = Iv h0 (Rv h0 m 29) (12800 + (j - 1600 * b.toNat)) ∧ Iv h (Rv h m 30) j = Iv h0 (Rv h0 m 30) (12800 + (j - 1600 * b.toNat)))
theorem CO.start {h0 h : Hp} {m : Nat} {b : Int} (e29 : Iv h (Rv h m 29) = Iv h0 (Rv h0 m 29)) (e30 : Iv h (Rv h m 30) = Iv h0 (Rv h0 m 30)) : CO h0 h m b 0 := fun j => by
  rw [e29, e30]
  exact ⟨fun _ => ⟨rfl, rfl⟩, fun z1 z2 => absurd z2 (by omega)⟩
theorem CO.step {h0 h h1 h2 : Hp} {m a29 a30 : Nat} {b k v29 v30 : Int} (O : Okh h) (t : Tg h m = 12) (hb : 0 ≤ b ∧ b ≤ 7) (hk : 0 ≤ k ∧ k ≤ 1599) (r29 : Rv h m 29 = a29) (r30 : Rv h m 30 = a30)
    (i29 i30 : Nat) (x29 : (i29 : Int) = 1600 * b + k) (x30 : (i30 : Int) = 1600 * b + k)
    (k1 : sI h a29 i29 v29 = h1) (k2 : sI h1 a30 i30 v30 = h2)
    (g29 : Iv h a29 (12800 + k).toNat = v29) (g30 : Iv h a30 (12800 + k).toNat = v30) (p : CO h0 h m b k) : CO h0 h2 m b (k + 1) := by
  have t29 : Tg h a29 = 129100 := r29 ▸ ok_R O t rE_12_29 rfl
  have t30 : Tg h a30 = 130100 := r30 ▸ ok_R O t rE_12_30 rfl
  have n1 : a29 ≠ a30 := ne_tag t29 t30 (by decide)
  have R : ∀ g, Rv h2 m g = Rv h m g := fun g => by rw [pIR k2, pIR k1]
  have y29 : ∀ j, Iv h2 a29 j = if j = i29 then v29 else Iv h a29 j := fun j => by
    rw [pI_n k2 n1]
    split
    · rename_i z; rw [z, pI_e k1]
    · rename_i z; exact pI_j k1 z
  have y30 : ∀ j, Iv h2 a30 j = if j = i30 then v30 else Iv h a30 j := fun j => by
    split
    · rename_i z; rw [z, pI_e k2]
    · rename_i z; rw [pI_j k2 z, pI_n k1 (Ne.symm n1)]
  have s0 := (p (12800 + k).toNat).1 (Or.inr (by omega))
  rw [r29, r30] at s0
  intro j
  rw [R, R, r29, r30]
  have pj := p j
  rw [r29, r30] at pj
  refine ⟨fun z => ?_, fun z1 z2 => ?_⟩
  · rw [← (pj.1 z).1, ← (pj.1 z).2, y29, y30, if_neg (by omega), if_neg (by omega)]
    exact ⟨rfl, rfl⟩
  · by_cases e0 : (j : Int) < 1600 * b + k
    · rw [← (pj.2 z1 e0).1, ← (pj.2 z1 e0).2, y29, y30, if_neg (by omega), if_neg (by omega)]
      exact ⟨rfl, rfl⟩
    · have ej : 12800 + (j - 1600 * b.toNat) = (12800 + k).toNat := by omega
      rw [ej, ← s0.1, ← s0.2, y29, y30, if_pos (by omega), if_pos (by omega), g29, g30]
      exact ⟨rfl, rfl⟩
theorem kept_new {h0 h : Hp} {m : Nat} {b n : Int} (hb : 0 ≤ b ∧ b ≤ 7) (O0 : Okh h0) (t0 : Tg h0 m = 12) (hn : Iv h0 m 28 = n) (hn2 : n ≤ 1600) (cp : CP h0 h m b 24) (co : CO h0 h m b n) (l8 : Iv h (Rv h m 24) b.toNat = Iv h0 (Rv h0 m 24) 8) (lo : ∀ j : Nat, (j : Int) < b → Iv h (Rv h m 24) j = Iv h0 (Rv h0 m 24) j) (p : BKn h0 m b) (la : LA h0 m) (dl : DLn h0 m (Iv h0 (Rv h0 m 24) 8)) : BKn h m (b + 1) ∧ LA h m := by
  refine ⟨fun d hd => ?_, fun k hk => ?_⟩
  · by_cases e : (d : Int) < b
    · refine BKb_cong (by omega) (lo d e) (ln24 O0 t0) (fun k k1 k2 => ⟨(cp 25 (Or.inl rfl) k).1 (Or.inl (by omega)), (cp 26 (Or.inr (Or.inl rfl)) k).1 (Or.inl (by omega)), (cp 27 (Or.inr (Or.inr rfl)) k).1 (Or.inl (by omega))⟩) (fun k k1 k2 => (co k).1 (Or.inl (by omega))) (p d e)
    · have ed : d = b.toNat := by omega
      subst ed
      intro k hk
      rw [l8] at hk
      obtain ⟨q, h1, h2, h3, h4, h5⟩ := dl k hk
      have l24 := ln24 (b := 8) O0 t0
      have z25 := (cp 25 (Or.inl rfl) (24 * b.toNat + k)).2 (by omega) (by omega)
      have z26 := (cp 26 (Or.inr (Or.inl rfl)) (24 * b.toNat + k)).2 (by omega) (by omega)
      have z27 := (cp 27 (Or.inr (Or.inr rfl)) (24 * b.toNat + k)).2 (by omega) (by omega)
      rw [show 192 + (24 * b.toNat + k - 24 * b.toNat) = 192 + k by omega] at z25 z26 z27
      rw [if_neg (by decide)] at z25 z26
      rw [if_pos rfl] at z27
      refine ⟨⟨q, by omega, by omega, ?_, ?_⟩, fun z => by rw [z26]; have := h5 (by omega); omega⟩
      · have ei : (Iv h (Rv h m 27) (24 * b.toNat + k)).toNat = 1600 * b.toNat + ((Iv h0 (Rv h0 m 27) (192 + k)).toNat - 12800) := by omega
        rw [ei]
        refine stk_shift (i := (Iv h0 (Rv h0 m 27) (192 + k)).toNat) (fun j hj => ?_) h3
        have z := (co (1600 * b.toNat + ((Iv h0 (Rv h0 m 27) (192 + k)).toNat - 12800) + j)).2 (by omega) (by omega)
        rw [show 12800 + (1600 * b.toNat + ((Iv h0 (Rv h0 m 27) (192 + k)).toNat - 12800) + j - 1600 * b.toNat) = (Iv h0 (Rv h0 m 27) (192 + k)).toNat + j by omega] at z
        exact z
      · have z := (co ((Iv h (Rv h m 27) (24 * b.toNat + k)).toNat + q)).2 (by omega) (by omega)
        rw [z.1, show 12800 + ((Iv h (Rv h m 27) (24 * b.toNat + k)).toNat + q - 1600 * b.toNat) = (Iv h0 (Rv h0 m 27) (192 + k)).toNat + q by omega]
        exact h4
  · by_cases e : 24 * b + 24 ≤ (k : Int)
    · rw [(cp 27 (Or.inr (Or.inr rfl)) k).1 (Or.inr e)]; exact la k hk
    · omega
