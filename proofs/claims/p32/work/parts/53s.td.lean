/-! TD: parts of the state as functions, and how they go over writes -/
def upE (f : Nat → Int) (j : Nat) (v : Int) : Nat → Int := fun k => if k = j then v else f k
theorem upE_id {f : Nat → Int} {j : Nat} {v : Int} (e : f j = v) : f = upE f j v := by
  funext k
  unfold upE
  split
  · rename_i z; rw [z, e]
  · rfl
theorem upE_cg {f : Nat → Int} {i j : Nat} {v w : Int} (e1 : i = j) (e2 : v = w) : upE f i v = upE f j w := by rw [e1, e2]
def cntE (f : Nat → Int) : Nat → Int
  | 0 => 0
  | n + 1 => cntE f n + f n
theorem cntE_lo {f : Nat → Int} {j : Nat} {v : Int} : ∀ n : Nat, n ≤ j → cntE (upE f j v) n = cntE f n := by
  intro n
  induction n with
  | zero => intro _; rfl
  | succ n ih =>
    intro h
    show cntE (upE f j v) n + upE f j v n = cntE f n + f n
    rw [ih (by omega)]
    unfold upE
    rw [if_neg (by omega)]
theorem cntE_up {f : Nat → Int} {j : Nat} {v : Int} : ∀ n : Nat, j < n → cntE (upE f j v) n = cntE f n - f j + v := by
  intro n
  induction n with
  | zero => intro h; omega
  | succ n ih =>
    intro h
    show cntE (upE f j v) n + upE f j v n = cntE f n + f n - f j + v
    by_cases q : j = n
    · subst q
      rw [cntE_lo j (Nat.le_refl _)]
      unfold upE
      rw [if_pos rfl]
      omega
    · rw [ih (by omega)]
      unfold upE
      rw [if_neg (by omega)]
      omega
theorem cntE_z : ∀ n : Nat, cntE (fun _ => 0) n = 0 := by
  intro n
  induction n with
  | zero => rfl
  | succ n ih => show cntE (fun _ => 0) n + 0 = 0; rw [ih]; rfl
theorem cntE_s {f : Nat → Int} {x : Int} (h0 : 0 ≤ x) : cntE f (x + 1).toNat = cntE f x.toNat + f x.toNat := by
  rw [show (x + 1).toNat = x.toNat + 1 by omega]; rfl
/-! the one side -/
def Qplc (h : Hp) (x : Nat) : Int := Iv h (Rv h x 2) 8
def Qlen (h : Hp) (x : Nat) : Int := Iv h (Rv h x 5) 1
def Qasc (h : Hp) (x : Nat) : Int := Iv h (Rv h x 2) 5
def Qbar (h : Hp) (x : Nat) : Nat → Int := fun k => if k < 96 then 1 - Iv h (Rv h (Rv h x 2) 1) k else 0
def Qask (h : Hp) (x : Nat) : Nat → Int := Iv h (Rv h (Rv h x 2) 4)
def Qsg (f : Nat) (h : Hp) (x : Nat) : Nat → Int := fun k => if (k : Int) < Iv h x 4 ∧ ¬ Rv h (Rv h x 3) k = 0 then Iv h (Rv h (Rv h x 3) k) f else -1
def INJ (h : Hp) (a : Nat) (c : Int) : Prop := ∀ i j : Nat, (i : Int) < c → (j : Int) < c → Rv h a i = Rv h a j → i = j
def NEW (h : Hp) (a : Nat) (c : Int) (n : Nat) : Prop := ∀ k : Nat, (k : Int) < c → ¬ Rv h a k = n
def ZA (h : Hp) (a : Nat) : Prop := ∀ j, Iv h a j = 0
def ASK (h : Hp) (x : Nat) : Prop := Qasc h x = cntE (Qask h x) 96 ∧ cntE (Qask h x) 96 ≤ 8
section TD
variable {wr : List Nat} {h h1 : Hp} {x m l a n s : Nat}
theorem xRv (F : Fx wr h h1) (t : Tg h x = 11) {j : Nat} (w : wr.elem (enc 11 j) = false) : Rv h1 x j = Rv h x j := fxR (T := 10) F t w
theorem xIv (F : Fx wr h h1) (t : Tg h x = 11) {j : Nat} (w : wr.elem (enc 11 j) = false) : Iv h1 x j = Iv h x j := fxI (T := 10) F t w
theorem Qplc_fx (O : Okh h) (F : Fx wr h h1) (t : Tg h x = 11) (hw : ([2202, 608] : List Nat).all (fun e => !wr.elem e) = true) : Qplc h1 x = Qplc h x := by
  unfold Qplc
  rw [xRv F t (w_of hw rfl)]
  exact fxI (T := 2) F (ok_R O t rE_11_2 rfl) (w_of hw rfl)
theorem Qasc_fx (O : Okh h) (F : Fx wr h h1) (t : Tg h x = 11) (hw : ([2202, 605] : List Nat).all (fun e => !wr.elem e) = true) : Qasc h1 x = Qasc h x := by
  unfold Qasc
  rw [xRv F t (w_of hw rfl)]
  exact fxI (T := 2) F (ok_R O t rE_11_2 rfl) (w_of hw rfl)
theorem Qlen_fx (O : Okh h) (F : Fx wr h h1) (t : Tg h x = 11) (hw : ([2205, 801] : List Nat).all (fun e => !wr.elem e) = true) : Qlen h1 x = Qlen h x := by
  unfold Qlen
  rw [xRv F t (w_of hw rfl)]
  exact fxI (T := 3) F (ok_R O t rE_11_5 rfl) (w_of hw rfl)
theorem landA (O : Okh h) (F : Fx wr h h1) (t : Tg h x = 11) {j E L : Nat} (r : rE 3 j = (E + 1, L, true)) (hT : ¬ (E + 1) % 1000 < 100) (w0 : wr.elem (enc 11 2) = false) (w1 : wr.elem (enc 3 j) = false) (w2 : wr.elem ((E + 1) * 200) = false) : Iv h1 (Rv h1 (Rv h1 x 2) j) = Iv h (Rv h (Rv h x 2) j) := by
  funext k
  have tl := ok_R O t rE_11_2 rfl
  rw [xRv F t w0, fxR (T := 2) F tl w1]
  exact fxIa (T := E) F (ok_R O tl r rfl) hT w2
theorem Qbar_fx (O : Okh h) (F : Fx wr h h1) (t : Tg h x = 11) (hw : ([2202, 601, 13101 * 200] : List Nat).all (fun e => !wr.elem e) = true) : Qbar h1 x = Qbar h x := by
  unfold Qbar
  rw [landA (j := 1) O F t rE_3_1 ar_13101 (w_of hw rfl) (w_of hw rfl) (w_of hw rfl)]
theorem Qask_fx (O : Okh h) (F : Fx wr h h1) (t : Tg h x = 11) (hw : ([2202, 604, 16101 * 200] : List Nat).all (fun e => !wr.elem e) = true) : Qask h1 x = Qask h x := landA (j := 4) O F t rE_3_4 ar_16101 (w_of hw rfl) (w_of hw rfl) (w_of hw rfl)
theorem Qsg_fx {f : Nat} (O : Okh h) (F : Fx wr h h1) (t : Tg h x = 11) (hw : ([2203, 2204, 38104 * 200, enc 9 f] : List Nat).all (fun e => !wr.elem e) = true) : Qsg f h1 x = Qsg f h x := by
  funext k
  unfold Qsg
  have tl := ok_R O t rE_11_3 rfl
  rw [xIv F t (w_of hw rfl), xRv F t (w_of hw rfl), fxRa (T := 38103) F tl ar_38104 (w_of hw rfl)]
  by_cases q : (k : Int) < Iv h x 4 ∧ ¬ Rv h (Rv h x 3) k = 0
  · rw [if_pos q, if_pos q]
    exact fxI (T := 8) F (ok_Na O tl ar_38104 rE_38104_0 rfl q.2) (w_of hw (List.elem_iff.mpr (by simp)))
  · rw [if_neg q, if_neg q]
theorem INJ_fx {c : Int} (F : Fx wr h h1) (t : Tg h a = 38104) (hw : wr.elem (38104 * 200) = false) (p : INJ h a c) : INJ h1 a c := fun i j hi hj e => by
  rw [fxRa (T := 38103) F t ar_38104 hw, fxRa (T := 38103) F t ar_38104 hw] at e
  exact p i j hi hj e
theorem NEW_fx {c : Int} (F : Fx wr h h1) (t : Tg h a = 38104) (hw : wr.elem (38104 * 200) = false) (p : NEW h a c n) : NEW h1 a c n := fun k hk e => by
  rw [fxRa (T := 38103) F t ar_38104 hw] at e
  exact p k hk e
theorem ZA_fx {T : Nat} (F : Fx wr h h1) (t : Tg h a = T + 1) (hT : ¬ (T + 1) % 1000 < 100) (hw : wr.elem ((T + 1) * 200) = false) (p : ZA h a) : ZA h1 a := fun j => by
  rw [fxIa F t hT hw]; exact p j
theorem ASK_fx (O : Okh h) (F : Fx wr h h1) (t : Tg h x = 11) (hw : ([2202, 604, 605, 16101 * 200] : List Nat).all (fun e => !wr.elem e) = true) (p : ASK h x) : ASK h1 x := by
  unfold ASK
  rw [Qasc_fx O F t (by simp only [List.all_cons, List.all_nil, Bool.and_true, Bool.and_eq_true] at hw ⊢; exact ⟨hw.1, hw.2.2.1⟩), Qask_fx O F t (by simp only [List.all_cons, List.all_nil, Bool.and_true, Bool.and_eq_true] at hw ⊢; exact ⟨hw.1, hw.2.1, hw.2.2.2⟩)]
  exact p
/-! writes -/
theorem Qplc_w {v : Int} (e : Rv h x 2 = l) (hh : sI h l 8 v = h1) : Qplc h1 x = v := by
  unfold Qplc; rw [pIR hh, e]; exact pI_e hh
theorem Qasc_w {v : Int} (e : Rv h x 2 = l) (hh : sI h l 5 v = h1) : Qasc h1 x = v := by
  unfold Qasc; rw [pIR hh, e]; exact pI_e hh
theorem Qlen_w {v : Int} (e : Rv h x 5 = l) (hh : sI h l 1 v = h1) : Qlen h1 x = v := by
  unfold Qlen; rw [pIR hh, e]; exact pI_e hh
theorem Qask_w {j : Nat} {v : Int} (e2 : Rv h x 2 = l) (e1 : Rv h l 4 = a) (hh : sI h a j v = h1) : Qask h1 x = upE (Qask h x) j v := by
  funext k
  show Iv h1 (Rv h1 (Rv h1 x 2) 4) k = if k = j then v else Iv h (Rv h (Rv h x 2) 4) k
  rw [pIR hh, pIR hh, e2, e1]
  by_cases q : k = j
  · rw [if_pos q, q, pI_e hh]
  · rw [if_neg q, pI_j hh q]
theorem Qbar_w {j : Nat} {v : Int} (e2 : Rv h x 2 = l) (e1 : Rv h l 1 = a) (hj : j < 96) (hh : sI h a j v = h1) : Qbar h1 x = upE (Qbar h x) j (1 - v) := by
  funext k
  show (if k < 96 then 1 - Iv h1 (Rv h1 (Rv h1 x 2) 1) k else 0) = if k = j then 1 - v else if k < 96 then 1 - Iv h (Rv h (Rv h x 2) 1) k else 0
  rw [pIR hh, pIR hh, e2, e1]
  by_cases q : k = j
  · rw [if_pos q, q, pI_e hh, if_pos hj]
  · rw [if_neg q, pI_j hh q]
theorem Qsg_w {f k0 : Nat} {c v : Int} (e3 : Rv h x 3 = a) (e4 : Iv h x 4 = c) (ek : Rv h a k0 = s) (hk : (k0 : Int) < c) (hs : ¬ s = 0) (inj : INJ h a c) (hf : ¬ f = 4) (hh : sI h s f v = h1) : Qsg f h1 x = upE (Qsg f h x) k0 v := by
  funext k
  show (if (k : Int) < Iv h1 x 4 ∧ ¬ Rv h1 (Rv h1 x 3) k = 0 then Iv h1 (Rv h1 (Rv h1 x 3) k) f else -1) = if k = k0 then v else if (k : Int) < Iv h x 4 ∧ ¬ Rv h (Rv h x 3) k = 0 then Iv h (Rv h (Rv h x 3) k) f else -1
  rw [pI_j hh (fun z => hf z.symm), pIR hh, pIR hh, e3, e4]
  by_cases q : k = k0
  · rw [if_pos q, q, ek, if_pos ⟨hk, hs⟩, pI_e hh]
  · rw [if_neg q]
    by_cases z : (k : Int) < c ∧ ¬ Rv h a k = 0
    · rw [if_pos z, if_pos z]
      exact pI_n hh (fun e => q (inj k k0 z.1 hk (e.trans ek.symm)))
    · rw [if_neg z, if_neg z]
theorem Qsg_s {f v : Nat} {c : Int} (t : Tg h x = 11) (ta : Tg h a = 38104) (e3 : Rv h x 3 = a) (e4 : Iv h x 4 = c) (h0 : 0 ≤ c) (hh : sR h a c.toNat v = h1) : Qsg f h1 x = Qsg f h x := by
  funext k
  show (if (k : Int) < Iv h1 x 4 ∧ ¬ Rv h1 (Rv h1 x 3) k = 0 then Iv h1 (Rv h1 (Rv h1 x 3) k) f else -1) = if (k : Int) < Iv h x 4 ∧ ¬ Rv h (Rv h x 3) k = 0 then Iv h (Rv h (Rv h x 3) k) f else -1
  rw [pRI hh, pR_n hh (ne_tag t ta (by decide)), e3, e4]
  by_cases q : (k : Int) < c
  · rw [pR_j hh (by omega), pRI hh]
  · rw [if_neg (fun z => q z.1), if_neg (fun z => q z.1)]
theorem Qsg_c {f : Nat} {c d : Int} (t : Tg h x = 11) (tn : Tg h n = 9) (ta : Tg h a = 38104) (O : Okh h) (e3 : Rv h x 3 = a) (e4 : Iv h x 4 = c) (h0 : 0 ≤ c) (hd : d = c + 1) (ek : Rv h a c.toNat = n) (ef : Iv h n f = -1) (hh : sI h x 4 d = h1) : Qsg f h1 x = Qsg f h x := by
  funext k
  show (if (k : Int) < Iv h1 x 4 ∧ ¬ Rv h1 (Rv h1 x 3) k = 0 then Iv h1 (Rv h1 (Rv h1 x 3) k) f else -1) = if (k : Int) < Iv h x 4 ∧ ¬ Rv h (Rv h x 3) k = 0 then Iv h (Rv h (Rv h x 3) k) f else -1
  rw [pI_e hh, pIR hh, pIR hh, e3, e4, hd]
  by_cases q : (k : Int) < c
  · by_cases z : Rv h a k = 0
    · rw [if_neg (fun w => w.2 z), if_neg (fun w => w.2 z)]
    · rw [if_pos ⟨by omega, z⟩, if_pos ⟨q, z⟩]
      exact pI_n hh (ne_tag (ok_Na O ta ar_38104 rE_38104_0 rfl z) t (by decide))
  · have w : ¬ ((k : Int) < c ∧ ¬ Rv h a k = 0) := fun w => q w.1
    rw [if_neg w]
    by_cases z : (k : Int) < c + 1 ∧ ¬ Rv h a k = 0
    · have ekk : k = c.toNat := by omega
      rw [if_pos z, ekk, ek]
      exact (pI_n hh (ne_tag tn t (by decide))).trans ef
    · rw [if_neg z]
theorem INJ_set {c : Int} {v : Nat} (p : INJ h a c) (q : NEW h a c v) (h0 : 0 ≤ c) (hh : sR h a c.toNat v = h1) : INJ h1 a (c + 1) := fun i j hi hj e => by
  by_cases a1 : i = c.toNat
  · by_cases a2 : j = c.toNat
    · rw [a1, a2]
    · rw [a1, pR_e hh, pR_j hh a2] at e
      exact absurd e.symm (q j (by omega))
  · by_cases a2 : j = c.toNat
    · rw [a2, pR_e hh, pR_j hh a1] at e
      exact absurd e (q i (by omega))
    · rw [pR_j hh a1, pR_j hh a2] at e
      exact p i j (by omega) (by omega) e
theorem NEW_of {c : Int} (O : Okh h) (t : Tg h a = 38104) (p : SOK h a c) (hn : Tg h n = 0) : NEW h a c n := fun k hk e => by
  have q := ok_Na O t ar_38104 rE_38104_0 rfl (p k hk).1
  rw [e, hn] at q
  omega
/-! reading -/
theorem Qbar_get {j : Nat} {c : Int} (e2 : Rv h x 2 = l) (e1 : Rv h l 1 = a) (hj : j < 96) (ei : Iv h a j = c) : Qbar h x j = 1 - c := by
  show (if j < 96 then 1 - Iv h (Rv h (Rv h x 2) 1) j else 0) = 1 - c
  rw [e2, e1, ei, if_pos hj]
theorem Qask_get {j : Nat} {c : Int} (e2 : Rv h x 2 = l) (e1 : Rv h l 4 = a) (ei : Iv h a j = c) : Qask h x j = c := by
  show Iv h (Rv h (Rv h x 2) 4) j = c
  rw [e2, e1, ei]
theorem Qsg_get {f j : Nat} {c v : Int} (e3 : Rv h x 3 = a) (e4 : Iv h x 4 = c) (hj : (j : Int) < c) (ek : Rv h a j = s) (hs : ¬ s = 0) (ei : Iv h s f = v) : Qsg f h x j = v := by
  show (if (j : Int) < Iv h x 4 ∧ ¬ Rv h (Rv h x 3) j = 0 then Iv h (Rv h (Rv h x 3) j) f else -1) = v
  rw [e3, e4, ek, if_pos ⟨hj, hs⟩]
  exact ei
end TD
/-! the other side -/
def Qm (j : Nat) (h : Hp) (m : Nat) : Nat → Int := Iv h (Rv h m j)
def Qmb (h : Hp) (m : Nat) : Nat → Int := fun k => if k < 96 then Iv h (Rv h m 37) k else 0
def Qms (j : Nat) (h : Hp) (m : Nat) : Nat → Int := fun k => if (k : Int) < Iv h m 40 then Iv h (Rv h m j) k else -1
def PB (h : Hp) (a : Nat) (c : Int) : Prop := ∀ k : Nat, (k : Int) < c → Iv h a k = 1
section TM
variable {wr : List Nat} {h h1 : Hp} {m a : Nat}
theorem Qmb_fx (O : Okh h) (F : Fx wr h h1) (t : Tg h m = 12) (hw : ([2437, 137101 * 200] : List Nat).all (fun e => !wr.elem e) = true) : Qmb h1 m = Qmb h m := by
  unfold Qmb
  rw [mAI (j := 37) O F t rE_12_37 ar_137101 (w_of hw rfl) (w_of hw rfl)]
theorem Qms_fx {j E L : Nat} (O : Okh h) (F : Fx wr h h1) (t : Tg h m = 12) (r : rE 12 j = (E + 1, L, true)) (hT : ¬ (E + 1) % 1000 < 100) (w0 : wr.elem (enc 12 40) = false) (w1 : wr.elem (enc 12 j) = false) (w2 : wr.elem ((E + 1) * 200) = false) : Qms j h1 m = Qms j h m := by
  unfold Qms
  rw [mAI (j := j) O F t r hT w1 w2, mIv (j := 40) F t w0]
theorem Qm_w {J j : Nat} {v : Int} (e : Rv h m J = a) (hh : sI h a j v = h1) : Qm J h1 m = upE (Qm J h m) j v := by
  funext k
  show Iv h1 (Rv h1 m J) k = if k = j then v else Iv h (Rv h m J) k
  rw [pIR hh, e]
  by_cases q : k = j
  · rw [if_pos q, q, pI_e hh]
  · rw [if_neg q, pI_j hh q]
theorem Qmb_w {j : Nat} {v : Int} (e : Rv h m 37 = a) (hj : j < 96) (hh : sI h a j v = h1) : Qmb h1 m = upE (Qmb h m) j v := by
  funext k
  show (if k < 96 then Iv h1 (Rv h1 m 37) k else 0) = if k = j then v else if k < 96 then Iv h (Rv h m 37) k else 0
  rw [pIR hh, e]
  by_cases q : k = j
  · rw [if_pos q, q, pI_e hh, if_pos hj]
  · rw [if_neg q, pI_j hh q]
theorem Qms_w {J j : Nat} {c v : Int} (t : Tg h m = 12) {E : Nat} (ta : Tg h a = E) (hE : 12 ≠ E) (e : Rv h m J = a) (e4 : Iv h m 40 = c) (hj : (j : Int) < c) (hh : sI h a j v = h1) : Qms J h1 m = upE (Qms J h m) j v := by
  funext k
  show (if (k : Int) < Iv h1 m 40 then Iv h1 (Rv h1 m J) k else -1) = if k = j then v else if (k : Int) < Iv h m 40 then Iv h (Rv h m J) k else -1
  rw [pIR hh, pI_n hh (ne_tag t ta hE), e, e4]
  by_cases q : k = j
  · rw [if_pos q, q, pI_e hh, if_pos hj]
  · rw [if_neg q, pI_j hh q]
theorem Qms_s {J : Nat} {c v : Int} (t : Tg h m = 12) {E : Nat} (ta : Tg h a = E) (hE : 12 ≠ E) (e : Rv h m J = a) (e4 : Iv h m 40 = c) (h0 : 0 ≤ c) (hh : sI h a c.toNat v = h1) : Qms J h1 m = Qms J h m := by
  funext k
  show (if (k : Int) < Iv h1 m 40 then Iv h1 (Rv h1 m J) k else -1) = if (k : Int) < Iv h m 40 then Iv h (Rv h m J) k else -1
  rw [pIR hh, pI_n hh (ne_tag t ta hE), e, e4]
  by_cases q : (k : Int) < c
  · rw [if_pos q, if_pos q, pI_j hh (by omega)]
  · rw [if_neg q, if_neg q]
theorem Qms_c {J : Nat} {c d : Int} (t : Tg h m = 12) {E : Nat} (ta : Tg h a = E) (hE : E ≠ 12) (e : Rv h m J = a) (e4 : Iv h m 40 = c) (h0 : 0 ≤ c) (hd : d = c + 1) (ef : Iv h a c.toNat = -1) (hh : sI h m 40 d = h1) : Qms J h1 m = Qms J h m := by
  funext k
  show (if (k : Int) < Iv h1 m 40 then Iv h1 (Rv h1 m J) k else -1) = if (k : Int) < Iv h m 40 then Iv h (Rv h m J) k else -1
  rw [pI_e hh, pIR hh, e, e4, hd]
  by_cases q : (k : Int) < c
  · rw [if_pos (by omega), if_pos q]
    exact pI_n hh (ne_tag ta t hE)
  · rw [if_neg q]
    by_cases z : (k : Int) < c + 1
    · rw [if_pos z, show k = c.toNat by omega]
      exact (pI_n hh (ne_tag ta t hE)).trans ef
    · rw [if_neg z]
theorem Qm_get {J j : Nat} {c : Int} (e : Rv h m J = a) (ei : Iv h a j = c) : Qm J h m j = c := by
  show Iv h (Rv h m J) j = c
  rw [e, ei]
theorem Qmb_get {j : Nat} {c : Int} (e : Rv h m 37 = a) (hj : j < 96) (ei : Iv h a j = c) : Qmb h m j = c := by
  show (if j < 96 then Iv h (Rv h m 37) j else 0) = c
  rw [e, ei, if_pos hj]
theorem Qms_get {J j : Nat} {c v : Int} (e : Rv h m J = a) (e4 : Iv h m 40 = c) (hj : (j : Int) < c) (ei : Iv h a j = v) : Qms J h m j = v := by
  show (if (j : Int) < Iv h m 40 then Iv h (Rv h m J) j else -1) = v
  rw [e, e4, ei, if_pos hj]
theorem PB_fx {c : Int} (F : Fx wr h h1) (t : Tg h a = 137101) (hw : wr.elem (137101 * 200) = false) (p : PB h a c) : PB h1 a c := fun k hk => by
  rw [fxIa (T := 137100) F t ar_137101 hw]; exact p k hk
theorem PB_set {c : Int} (p : PB h a c) (h0 : 0 ≤ c) (hh : sI h a c.toNat 1 = h1) : PB h1 a (c + 1) := fun k hk => by
  by_cases q : k = c.toNat
  · rw [q, pI_e hh]
  · rw [pI_j hh q]; exact p k (by omega)
end TM
/-! bytes of a long, from the highest -/
def byE (v : Int) (s : Int) : Int := bAnd (l2w (lShr v s)) 255
def tkS (c n : Int) : Int := if (c = 10 ∨ (32 ≤ c ∧ c ≤ 126)) ∧ n < 1500 then n + 1 else n
def tkE (v : Int) : Nat → Int → Int
  | 0, n => n
  | k + 1, n => tkS (byE v (56 - 8 * (k : Int))) (tkE v k n)
theorem tk_step {v x n0 n1 n2 : Int} (h8 : (56 - x) % 8 = 0) (hx : 0 ≤ x ∧ x ≤ 56) (p : n1 = tkE v ((56 - x) / 8).toNat n0) (q : n2 = tkS (byE v x) n1) : n2 = tkE v ((56 - (x + -8)) / 8).toNat n0 := by
  rw [show ((56 - (x + -8)) / 8).toNat = ((56 - x) / 8).toNat + 1 by omega]
  show n2 = tkS (byE v (56 - 8 * ((((56 - x) / 8).toNat : Nat) : Int))) (tkE v ((56 - x) / 8).toNat n0)
  rw [show 56 - 8 * ((((56 - x) / 8).toNat : Nat) : Int) = x by omega, ← p]
  exact q
theorem by_key {k : Nat} (hk : k ≤ 56) (b : BitVec 64) : (b >>> k).setWidth 32 &&& 255#32 = (b.sshiftRight k).setWidth 32 &&& 255#32 := by
  apply BitVec.eq_of_getLsbD_eq
  intro i hi
  by_cases h8 : i < 8
  · have e : i + k < 64 := by omega
    simp only [BitVec.getLsbD_and, BitVec.getLsbD_setWidth, BitVec.getLsbD_ushiftRight, BitVec.getLsbD_sshiftRight]
    have e2 : k + i < 64 := by omega
    simp [e2, show ¬ 64 ≤ i by omega]
  · have z : ∀ j : Fin 32, ¬ j.val < 8 → (255#32).getLsbD j.val = false := by decide
    rw [BitVec.getLsbD_and, BitVec.getLsbD_and, z ⟨i, hi⟩ h8, Bool.and_false, Bool.and_false]
theorem by_E (a b : Int64) (e : a.toBitVec.signExtend 32 &&& 255#32 = b.toBitVec.signExtend 32 &&& 255#32) : bAnd (l2w a.toInt) 255 = bAnd (l2w b.toInt) 255 := by
  have k : (i32 255).toBitVec = 255#32 := by decide
  have e2 : a.toInt32 &&& i32 255 = b.toInt32 &&& i32 255 := Int32.toBitVec.inj (by
    show a.toInt32.toBitVec &&& (i32 255).toBitVec = b.toInt32.toBitVec &&& (i32 255).toBitVec
    rw [k]
    exact e)
  show (Int32.ofInt ((Int64.ofInt a.toInt).toInt32.toInt) &&& i32 255).toInt = (Int32.ofInt ((Int64.ofInt b.toInt).toInt32.toInt) &&& i32 255).toInt
  rw [Int64.ofInt_toInt, Int64.ofInt_toInt, Int32.ofInt_toInt, Int32.ofInt_toInt, e2]
theorem by_0 {v : Int} : bAnd (l2w (lUshr v 0)) 255 = byE v 0 := by
  have x1 : (i32 0).toInt64.toUInt64 &&& Int64.toUInt64 63 = UInt64.ofNat 0 := by decide
  have x2 : (i32 0).toInt64 &&& 63 = Int64.ofNat 0 := by decide
  show bAnd (l2w ((i64 v).toUInt64 >>> ((i32 0).toInt64.toUInt64 &&& Int64.toUInt64 63)).toInt64.toInt) 255 = bAnd (l2w (i64 v >>> ((i32 0).toInt64 &&& 63)).toInt) 255
  rw [x1, x2]
  refine by_E _ _ ?_
  show ((i64 v).toBitVec >>> (0 : Nat)).signExtend 32 &&& 255#32 = ((i64 v).toBitVec.sshiftRight 0).signExtend 32 &&& 255#32
  rw [BitVec.signExtend_eq_setWidth_of_le _ (by decide), BitVec.signExtend_eq_setWidth_of_le _ (by decide)]
  exact by_key (by decide) _
theorem by_8 {v : Int} : bAnd (l2w (lUshr v 8)) 255 = byE v 8 := by
  have x1 : (i32 8).toInt64.toUInt64 &&& Int64.toUInt64 63 = UInt64.ofNat 8 := by decide
  have x2 : (i32 8).toInt64 &&& 63 = Int64.ofNat 8 := by decide
  show bAnd (l2w ((i64 v).toUInt64 >>> ((i32 8).toInt64.toUInt64 &&& Int64.toUInt64 63)).toInt64.toInt) 255 = bAnd (l2w (i64 v >>> ((i32 8).toInt64 &&& 63)).toInt) 255
  rw [x1, x2]
  refine by_E _ _ ?_
  show ((i64 v).toBitVec >>> (8 : Nat)).signExtend 32 &&& 255#32 = ((i64 v).toBitVec.sshiftRight 8).signExtend 32 &&& 255#32
  rw [BitVec.signExtend_eq_setWidth_of_le _ (by decide), BitVec.signExtend_eq_setWidth_of_le _ (by decide)]
  exact by_key (by decide) _
theorem by_16 {v : Int} : bAnd (l2w (lUshr v 16)) 255 = byE v 16 := by
  have x1 : (i32 16).toInt64.toUInt64 &&& Int64.toUInt64 63 = UInt64.ofNat 16 := by decide
  have x2 : (i32 16).toInt64 &&& 63 = Int64.ofNat 16 := by decide
  show bAnd (l2w ((i64 v).toUInt64 >>> ((i32 16).toInt64.toUInt64 &&& Int64.toUInt64 63)).toInt64.toInt) 255 = bAnd (l2w (i64 v >>> ((i32 16).toInt64 &&& 63)).toInt) 255
  rw [x1, x2]
  refine by_E _ _ ?_
  show ((i64 v).toBitVec >>> (16 : Nat)).signExtend 32 &&& 255#32 = ((i64 v).toBitVec.sshiftRight 16).signExtend 32 &&& 255#32
  rw [BitVec.signExtend_eq_setWidth_of_le _ (by decide), BitVec.signExtend_eq_setWidth_of_le _ (by decide)]
  exact by_key (by decide) _
theorem by_24 {v : Int} : bAnd (l2w (lUshr v 24)) 255 = byE v 24 := by
  have x1 : (i32 24).toInt64.toUInt64 &&& Int64.toUInt64 63 = UInt64.ofNat 24 := by decide
  have x2 : (i32 24).toInt64 &&& 63 = Int64.ofNat 24 := by decide
  show bAnd (l2w ((i64 v).toUInt64 >>> ((i32 24).toInt64.toUInt64 &&& Int64.toUInt64 63)).toInt64.toInt) 255 = bAnd (l2w (i64 v >>> ((i32 24).toInt64 &&& 63)).toInt) 255
  rw [x1, x2]
  refine by_E _ _ ?_
  show ((i64 v).toBitVec >>> (24 : Nat)).signExtend 32 &&& 255#32 = ((i64 v).toBitVec.sshiftRight 24).signExtend 32 &&& 255#32
  rw [BitVec.signExtend_eq_setWidth_of_le _ (by decide), BitVec.signExtend_eq_setWidth_of_le _ (by decide)]
  exact by_key (by decide) _
theorem by_32 {v : Int} : bAnd (l2w (lUshr v 32)) 255 = byE v 32 := by
  have x1 : (i32 32).toInt64.toUInt64 &&& Int64.toUInt64 63 = UInt64.ofNat 32 := by decide
  have x2 : (i32 32).toInt64 &&& 63 = Int64.ofNat 32 := by decide
  show bAnd (l2w ((i64 v).toUInt64 >>> ((i32 32).toInt64.toUInt64 &&& Int64.toUInt64 63)).toInt64.toInt) 255 = bAnd (l2w (i64 v >>> ((i32 32).toInt64 &&& 63)).toInt) 255
  rw [x1, x2]
  refine by_E _ _ ?_
  show ((i64 v).toBitVec >>> (32 : Nat)).signExtend 32 &&& 255#32 = ((i64 v).toBitVec.sshiftRight 32).signExtend 32 &&& 255#32
  rw [BitVec.signExtend_eq_setWidth_of_le _ (by decide), BitVec.signExtend_eq_setWidth_of_le _ (by decide)]
  exact by_key (by decide) _
theorem by_40 {v : Int} : bAnd (l2w (lUshr v 40)) 255 = byE v 40 := by
  have x1 : (i32 40).toInt64.toUInt64 &&& Int64.toUInt64 63 = UInt64.ofNat 40 := by decide
  have x2 : (i32 40).toInt64 &&& 63 = Int64.ofNat 40 := by decide
  show bAnd (l2w ((i64 v).toUInt64 >>> ((i32 40).toInt64.toUInt64 &&& Int64.toUInt64 63)).toInt64.toInt) 255 = bAnd (l2w (i64 v >>> ((i32 40).toInt64 &&& 63)).toInt) 255
  rw [x1, x2]
  refine by_E _ _ ?_
  show ((i64 v).toBitVec >>> (40 : Nat)).signExtend 32 &&& 255#32 = ((i64 v).toBitVec.sshiftRight 40).signExtend 32 &&& 255#32
  rw [BitVec.signExtend_eq_setWidth_of_le _ (by decide), BitVec.signExtend_eq_setWidth_of_le _ (by decide)]
  exact by_key (by decide) _
theorem by_48 {v : Int} : bAnd (l2w (lUshr v 48)) 255 = byE v 48 := by
  have x1 : (i32 48).toInt64.toUInt64 &&& Int64.toUInt64 63 = UInt64.ofNat 48 := by decide
  have x2 : (i32 48).toInt64 &&& 63 = Int64.ofNat 48 := by decide
  show bAnd (l2w ((i64 v).toUInt64 >>> ((i32 48).toInt64.toUInt64 &&& Int64.toUInt64 63)).toInt64.toInt) 255 = bAnd (l2w (i64 v >>> ((i32 48).toInt64 &&& 63)).toInt) 255
  rw [x1, x2]
  refine by_E _ _ ?_
  show ((i64 v).toBitVec >>> (48 : Nat)).signExtend 32 &&& 255#32 = ((i64 v).toBitVec.sshiftRight 48).signExtend 32 &&& 255#32
  rw [BitVec.signExtend_eq_setWidth_of_le _ (by decide), BitVec.signExtend_eq_setWidth_of_le _ (by decide)]
  exact by_key (by decide) _
theorem by_56 {v : Int} : bAnd (l2w (lUshr v 56)) 255 = byE v 56 := by
  have x1 : (i32 56).toInt64.toUInt64 &&& Int64.toUInt64 63 = UInt64.ofNat 56 := by decide
  have x2 : (i32 56).toInt64 &&& 63 = Int64.ofNat 56 := by decide
  show bAnd (l2w ((i64 v).toUInt64 >>> ((i32 56).toInt64.toUInt64 &&& Int64.toUInt64 63)).toInt64.toInt) 255 = bAnd (l2w (i64 v >>> ((i32 56).toInt64 &&& 63)).toInt) 255
  rw [x1, x2]
  refine by_E _ _ ?_
  show ((i64 v).toBitVec >>> (56 : Nat)).signExtend 32 &&& 255#32 = ((i64 v).toBitVec.sshiftRight 56).signExtend 32 &&& 255#32
  rw [BitVec.signExtend_eq_setWidth_of_le _ (by decide), BitVec.signExtend_eq_setWidth_of_le _ (by decide)]
  exact by_key (by decide) _
theorem by_eq {v s : Int} (h : s = 0 ∨ s = 8 ∨ s = 16 ∨ s = 24 ∨ s = 32 ∨ s = 40 ∨ s = 48 ∨ s = 56) : bAnd (l2w (lUshr v s)) 255 = byE v s := by
  rcases h with h | h | h | h | h | h | h | h
  · rw [h]; exact by_0
  · rw [h]; exact by_8
  · rw [h]; exact by_16
  · rw [h]; exact by_24
  · rw [h]; exact by_32
  · rw [h]; exact by_40
  · rw [h]; exact by_48
  · rw [h]; exact by_56
theorem ask_nn {h : Hp} {x : Nat} (O : Okh h) (t : Tg h x = 11) : 0 ≤ cntE (Qask h x) 96 := by
  have nn : ∀ j, 0 ≤ Qask h x j := fun j => (ok_Ia O (ok_R O (ok_R O t rE_11_2 rfl) rE_3_4 rfl) ar_16101 rI_16101_0 (x := Qask h x j) rfl).1
  have key : ∀ n : Nat, 0 ≤ cntE (Qask h x) n := by
    intro n
    induction n with
    | zero => exact Int.le_refl 0
    | succ n ih => show 0 ≤ cntE (Qask h x) n + Qask h x n; have := nn n; omega
  exact key 96
def INJX (h : Hp) (x : Nat) : Prop := INJ h (Rv h x 3) (Iv h x 4)
theorem INJX_fx {wr : List Nat} {h h1 : Hp} {x : Nat} (O : Okh h) (F : Fx wr h h1) (t : Tg h x = 11) (hw : ([2203, 2204, 38104 * 200] : List Nat).all (fun e => !wr.elem e) = true) (p : INJX h x) : INJX h1 x := by
  unfold INJX
  rw [xRv F t (w_of hw rfl), xIv F t (w_of hw rfl)]
  exact INJ_fx F (ok_R O t rE_11_3 rfl) (w_of hw rfl) p
def bar1 : Nat → Int := fun k => if k < 96 then 1 else 0
def neg1 : Nat → Int := fun _ => -1
def zer1 : Nat → Int := fun _ => 0
section TI
variable {h h1 : Hp} {x m l a n t : Nat}
theorem Qbar_i (e2 : Rv h x 2 = l) (e1 : Rv h l 1 = a) (z : ZA h a) : Qbar h x = bar1 := by
  funext k
  show (if k < 96 then 1 - Iv h (Rv h (Rv h x 2) 1) k else 0) = if k < 96 then 1 else 0
  rw [e2, e1, z k]
  rfl
theorem Qask_i (e2 : Rv h x 2 = l) (e1 : Rv h l 4 = a) (z : ZA h a) : Qask h x = zer1 := by
  funext k
  show Iv h (Rv h (Rv h x 2) 4) k = 0
  rw [e2, e1, z k]
theorem Qsg_i {f : Nat} (e4 : Iv h x 4 = 0) : Qsg f h x = neg1 := by
  funext k
  show (if (k : Int) < Iv h x 4 ∧ ¬ Rv h (Rv h x 3) k = 0 then Iv h (Rv h (Rv h x 3) k) f else -1) = -1
  rw [e4, if_neg (fun z => by have := z.1; omega)]
theorem Qms_i {j : Nat} (e4 : Iv h m 40 = 0) : Qms j h m = neg1 := by
  funext k
  show (if (k : Int) < Iv h m 40 then Iv h (Rv h m j) k else -1) = -1
  rw [e4, if_neg (by omega)]
theorem INJX_i (e4 : Iv h x 4 = 0) : INJX h x := fun i _ hi => by rw [e4] at hi; omega
theorem Qmb_i {c : Int} (e : Rv h m 37 = a) (p : PB h a c) (hc : 96 ≤ c) : Qmb h m = bar1 := by
  funext k
  show (if k < 96 then Iv h (Rv h m 37) k else 0) = if k < 96 then 1 else 0
  rw [e]
  by_cases q : k < 96
  · rw [if_pos q, if_pos q]; exact p k (by omega)
  · rw [if_neg q, if_neg q]
theorem ZA_rt (hh : rt h n t = h1) (z : ZA h a) : ZA h1 a := by subst hh; exact z
theorem Qplc_rt (hh : rt h n t = h1) : Qplc h1 x = Qplc h x := by subst hh; rfl
theorem Qlen_rt (hh : rt h n t = h1) : Qlen h1 x = Qlen h x := by subst hh; rfl
theorem Qbar_rt (hh : rt h n t = h1) : Qbar h1 x = Qbar h x := by subst hh; rfl
theorem Qask_rt (hh : rt h n t = h1) : Qask h1 x = Qask h x := by subst hh; rfl
theorem ASK_rt (hh : rt h n t = h1) (p : ASK h x) : ASK h1 x := by subst hh; exact p
theorem Qmb_rt (hh : rt h n t = h1) : Qmb h1 x = Qmb h x := by subst hh; rfl
theorem Qm_rt {j : Nat} (hh : rt h n t = h1) : Qm j h1 x = Qm j h x := by subst hh; rfl
theorem ASK_i (e : Qasc h x = 0) (p : Qask h x = zer1) : ASK h x := by
  unfold ASK
  rw [e, p]
  have z : cntE zer1 96 = 0 := cntE_z 96
  rw [z]
  exact ⟨rfl, by decide⟩
end TI
def ZR82 (h : Hp) (m : Nat) : Prop := Tg h (Rv h m 82) = 182101 ∧ ZA h (Rv h m 82)
theorem ZR82_fx {wr : List Nat} {h h1 : Hp} {m : Nat} (F : Fx wr h h1) (t : Tg h m = 1012) (hw : ([202482, 182101 * 200] : List Nat).all (fun e => !wr.elem e) = true) (p : ZR82 h m) : ZR82 h1 m := by
  obtain ⟨b, c⟩ := p
  unfold ZR82
  rw [fxR (T := 1011) (i := 82) F t (w_of hw rfl)]
  exact ⟨fxT F b, ZA_fx F b ar_182101 (w_of hw rfl) c⟩
theorem ZR82_new {h h1 h2 : Hp} {m n k : Nat} (hh : nw h n 182101 k = h1) (hr : sR h1 m 82 n = h2) : ZR82 h2 m := by
  unfold ZR82
  rw [pR_e hr]
  exact ⟨by rw [pRT hr]; exact pN_T hh, fun k => by rw [pRI hr]; exact pN_I hh⟩
abbrev quC (x y b : Int) (A : Nat → Int) : Prop := 0 ≤ x ∧ x ≤ 11 ∧ 0 ≤ y ∧ y ≤ 7 ∧ ¬ (b = 1 ∧ A (12 * y + x).toNat = 0 ∧ cntE A 96 = 8)
def quF (x y b : Int) (A : Nat → Int) : Int := if quC x y b A then 1 else 0
def quU (x y b : Int) (A : Nat → Int) : Nat → Int := if quC x y b A then upE A (12 * y + x).toNat b else A
