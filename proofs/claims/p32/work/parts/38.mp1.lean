/-! MP1: the reference, what holds beyond ranges; its rules of a day, its codes -/
theorem w_of {wr deps : List Nat} (hw : deps.all (fun e => !wr.elem e) = true) {e : Nat} (he : deps.elem e = true) : wr.elem e = false := by
  have := List.all_eq_true.mp hw e (List.elem_iff.mp he)
  simpa using this
section MF
variable {wr : List Nat} {h h1 : Hp} {m : Nat}
theorem mRv (F : Fx wr h h1) (t : Tg h m = 12) {j : Nat} (w : wr.elem (enc 12 j) = false) : Rv h1 m j = Rv h m j := fxR (T := 11) F t w
theorem mIv (F : Fx wr h h1) (t : Tg h m = 12) {j : Nat} (w : wr.elem (enc 12 j) = false) : Iv h1 m j = Iv h m j := fxI (T := 11) F t w
theorem mJv (F : Fx wr h h1) (t : Tg h m = 12) {j : Nat} (w : wr.elem (enc 12 j) = false) : Jv h1 m j = Jv h m j := fxJ (T := 11) F t w
theorem mAI (O : Okh h) (F : Fx wr h h1) (t : Tg h m = 12) {j E L : Nat} (r : rE 12 j = (E + 1, L, true)) (hT : ¬ (E + 1) % 1000 < 100) (w1 : wr.elem (enc 12 j) = false) (w2 : wr.elem ((E + 1) * 200) = false) : Iv h1 (Rv h1 m j) = Iv h (Rv h m j) := by
  funext k
  rw [mRv F t w1]
  exact fxIa (T := E) F (ok_R O t r rfl) hT w2
theorem mAJ (O : Okh h) (F : Fx wr h h1) (t : Tg h m = 12) {j E L : Nat} (r : rE 12 j = (E + 1, L, true)) (hT : ¬ (E + 1) % 1000 < 100) (w1 : wr.elem (enc 12 j) = false) (w2 : wr.elem ((E + 1) * 200) = false) : Jv h1 (Rv h1 m j) = Jv h (Rv h m j) := by
  funext k
  rw [mRv F t w1]
  exact fxJa (T := E) F (ok_R O t r rfl) hT w2
end MF
/-! the day that is shown, the rules in force -/
def VDf (v n : Int) : Int := if v < 0 then n else v
def bkF (on : Nat → Int) (d : Int) : Nat → Int
  | 0 => -1
  | n + 1 => if on n ≤ d then (n : Int) else bkF on d n
theorem bkF_rng (on : Nat → Int) (d : Int) : ∀ n : Nat, -1 ≤ bkF on d n ∧ bkF on d n < (n : Int) := by
  intro n
  induction n with
  | zero => exact ⟨Int.le_refl (-1), by show (-1 : Int) < ((0 : Nat) : Int); omega⟩
  | succ n ih =>
    unfold bkF
    split
    · omega
    · omega
theorem bkF_yes {on : Nat → Int} {d x : Int} (h0 : 0 ≤ x) (q : on x.toNat ≤ d) : x = bkF on d (x + 1).toNat := by
  rw [show (x + 1).toNat = x.toNat + 1 by omega]
  unfold bkF
  rw [if_pos q]
  omega
theorem bkF_no {on : Nat → Int} {d x y : Int} (h0 : 0 ≤ x) (q : ¬ on x.toNat ≤ d) (p : y = bkF on d x.toNat) : y = bkF on d (x + 1).toNat := by
  rw [show (x + 1).toNat = x.toNat + 1 by omega]
  unfold bkF
  rw [if_neg q]
  exact p
def BNow (h : Hp) (m : Nat) : Int := bkF (Iv h (Rv h m 11)) (VDf (Iv h m 34) (Iv h m 33)) (Iv h m 10).toNat
def bnD : List Nat := [2410, 2411, 2433, 2434, 111100 * 200]
theorem BNow_fx {wr : List Nat} {h h1 : Hp} {m : Nat} (O : Okh h) (F : Fx wr h h1) (t : Tg h m = 12) (hw : bnD.all (fun e => !wr.elem e) = true) : BNow h1 m = BNow h m := by
  unfold BNow
  rw [mAI (j := 11) O F t rE_12_11 ar_111100 (w_of hw rfl) (w_of hw rfl), mIv (j := 34) F t (w_of hw rfl), mIv (j := 33) F t (w_of hw rfl), mIv (j := 10) F t (w_of hw rfl)]
theorem BNow_rng {h : Hp} {m : Nat} (O : Okh h) (t : Tg h m = 12) {v : Int} (e : BNow h m = v) : -1 ≤ v ∧ v ≤ 7 := by
  subst e
  have a := bkF_rng (Iv h (Rv h m 11)) (VDf (Iv h m 34) (Iv h m 33)) (Iv h m 10).toNat
  have b := ok_I O t rI_12_10 rfl
  unfold BNow
  omega
theorem BNow_lt {h : Hp} {m : Nat} (O : Okh h) (t : Tg h m = 12) : BNow h m < Iv h m 10 ∨ BNow h m = -1 := by
  have a := bkF_rng (Iv h (Rv h m 11)) (VDf (Iv h m 34) (Iv h m 33)) (Iv h m 10).toNat
  have b := ok_I O t rI_12_10 rfl
  unfold BNow
  omega
/-! codes -/
def bothF (c a b : Int) : Int := if c = 4 then w32 (a + b) else if c = 5 then w32 (a - b) else if c = 6 then (if a < b then 1 else 0) else if c = 7 then (if a = b then 1 else 0) else if c = 8 then (if ¬ a = 0 ∧ ¬ b = 0 then 1 else 0) else (if ¬ a = 0 ∨ ¬ b = 0 then 1 else 0)
def notF (a : Int) : Int := if a = 0 then 1 else 0
def stp (c a : Int) (kn : Nat → Int) (st : List Int) : List Int :=
  if c = 1 then a :: st else if c = 2 then kn (min a.toNat 11) :: st else if c = 3 then (match st with | x :: r => notF x :: r | [] => []) else (match st with | y :: x :: r => bothF c x y :: r | r => r)
def okst (c a : Int) (d : Nat) : Prop := ¬ c = 0 ∧ (c = 2 → 0 ≤ a ∧ a ≤ 11) ∧ (c = 3 → 1 ≤ d) ∧ (¬ c = 1 → ¬ c = 2 → ¬ c = 3 → 2 ≤ d)
def nxd (c : Int) (d : Nat) : Nat := if c = 1 ∨ c = 2 then d + 1 else if c = 3 then d else d - 1
def stk (op one : Nat → Int) : Nat → Nat → Nat → Nat → Prop
  | 0, _, d, e => d = e
  | n + 1, i, d, e => okst (op i) (one i) d ∧ stk op one n (i + 1) (nxd (op i) d) e
theorem stk_app {op one : Nat → Int} : ∀ {n k i d e g : Nat}, stk op one n i d e → stk op one k (i + n) e g → stk op one (n + k) i d g := by
  intro n
  induction n with
  | zero => intro k i d e g a b; rw [Nat.zero_add]; cases a; exact b
  | succ n ih =>
    intro k i d e g a b
    rw [show n + 1 + k = (n + k) + 1 by omega]
    exact ⟨a.1, ih a.2 (by rw [show i + 1 + n = i + (n + 1) by omega]; exact b)⟩
theorem stk_congr {op one op2 one2 : Nat → Int} : ∀ {n i d e : Nat}, (∀ k, i ≤ k → k < i + n → op2 k = op k ∧ one2 k = one k) → stk op one n i d e → stk op2 one2 n i d e := by
  intro n
  induction n with
  | zero => intro i d e _ a; exact a
  | succ n ih =>
    intro i d e hc a
    obtain ⟨e1, e2⟩ := hc i (Nat.le_refl i) (by omega)
    unfold stk
    rw [e1, e2]
    exact ⟨a.1, ih (fun k q1 q2 => hc k (by omega) (by omega)) a.2⟩
theorem stk_shift {op one op2 one2 : Nat → Int} : ∀ {n i j d e : Nat}, (∀ k, k < n → op2 (j + k) = op (i + k) ∧ one2 (j + k) = one (i + k)) → stk op one n i d e → stk op2 one2 n j d e := by
  intro n
  induction n with
  | zero => intro i j d e _ a; exact a
  | succ n ih =>
    intro i j d e hc a
    obtain ⟨e1, e2⟩ := hc 0 (by omega)
    rw [Nat.add_zero, Nat.add_zero] at e1 e2
    unfold stk
    rw [e1, e2]
    exact ⟨a.1, ih (i := i + 1) (j := j + 1) (fun k q => by rw [show j + 1 + k = j + (k + 1) by omega, show i + 1 + k = i + (k + 1) by omega]; exact hc (k + 1) (by omega)) a.2⟩
theorem stk_nz {op one : Nat → Int} : ∀ {n i d e : Nat}, stk op one n i d e → ∀ k, k < n → ¬ op (i + k) = 0 := by
  intro n
  induction n with
  | zero => intro i d e _ k hk; omega
  | succ n ih =>
    intro i d e a k hk
    cases k with
    | zero => exact a.1.1
    | succ k => rw [show i + (k + 1) = (i + 1) + k by omega]; exact ih a.2 k (by omega)
/-- the value of codes from i on, f steps at most -/
def wvF (op one kn : Nat → Int) : Nat → Nat → List Int → Int
  | 0, _, _ => 0
  | f + 1, i, st => if op i = 0 then st.headD 0 else wvF op one kn f (i + 1) (stp (op i) (one i) kn st)
theorem wvF_congr {op one kn kn2 : Nat → Int} (hk : ∀ k, k ≤ 11 → kn k = kn2 k) : ∀ (f i : Nat) (st : List Int), wvF op one kn f i st = wvF op one kn2 f i st := by
  intro f
  induction f with
  | zero => intro i st; rfl
  | succ f ih =>
    intro i st
    unfold wvF
    split
    · rfl
    · rw [ih]
      congr 1
      unfold stp
      rw [hk _ (Nat.min_le_right _ _)]
def wv (op one kn : Nat → Int) (a : Int) : Int := wvF op one kn 14401 a.toNat []
def LOk (op one : Nat → Int) (a : Int) : Prop := ∃ n : Nat, 0 ≤ a ∧ (n : Int) < 1600 ∧ a + n < 12800 ∧ stk op one n a.toNat 0 1 ∧ op (a.toNat + n) = 0
def PRel (pile : Nat → Int) : List Int → Prop
  | [] => True
  | x :: st => pile st.length = x ∧ PRel pile st
theorem PRel_congr {p q : Nat → Int} : ∀ {st : List Int}, (∀ k, k < st.length → q k = p k) → PRel p st → PRel q st := by
  intro st
  induction st with
  | nil => intro _ _; trivial
  | cons x st ih =>
    intro hc a
    refine ⟨(hc st.length (by simp)).trans a.1, ih (fun k hk => hc k (by simp; omega)) a.2⟩
def WInv (op one kn pile : Nat → Int) (W a i top : Int) : Prop := ∃ (n f : Nat) (st : List Int), n < f ∧ a ≤ i ∧ 0 ≤ a ∧ i + n < 14400 ∧ i + n < a + 1600 ∧ (st.length : Int) = top ∧ top ≤ i - a ∧ stk op one n i.toNat st.length 1 ∧ op (i.toNat + n) = 0 ∧ PRel pile st ∧ wvF op one kn f i.toNat st = W
theorem WInv.start {op one kn pile : Nat → Int} {a : Int} (p : LOk op one a) : WInv op one kn pile (wv op one kn a) a a 0 := by
  obtain ⟨n, h1, h2, h3, h4, h5⟩ := p
  exact ⟨n, 14401, [], by omega, Int.le_refl a, h1, by omega, by omega, rfl, by omega, h4, h5, trivial, rfl⟩
theorem WInv.rng {op one kn pile : Nat → Int} {W a i top : Int} (p : WInv op one kn pile W a i top) : 0 ≤ i ∧ i < 14400 ∧ 0 ≤ top ∧ top ≤ 1599 := by
  obtain ⟨n, f, st, h1, h2, h3, h4, h5, h6, h7, -, -, -, -⟩ := p
  omega
theorem WInv.exit {op one kn pile : Nat → Int} {W a i top : Int} (p : WInv op one kn pile W a i top) (q : op i.toNat = 0) : pile 0 = W := by
  obtain ⟨n, f, st, h1, h2, h3, h4, h5, h6, h7, h8, h9, h10, h11⟩ := p
  cases n with
  | succ n => exact absurd q h8.1.1
  | zero =>
    cases f with
    | zero => omega
    | succ f =>
      unfold wvF at h11
      rw [if_pos q] at h11
      have e : st.length = 1 := h8
      match st, e with
      | [x], _ => exact h10.1.trans h11
theorem WInv.go {op one kn pile : Nat → Int} {W a i top : Int} (p : WInv op one kn pile W a i top) (q : ¬ op i.toNat = 0) : ∃ (n f : Nat) (st : List Int), n < f ∧ a ≤ i ∧ 0 ≤ a ∧ i + 1 + n < 14400 ∧ i + 1 + n < a + 1600 ∧ (st.length : Int) = top ∧ top ≤ i - a ∧ okst (op i.toNat) (one i.toNat) st.length ∧ stk op one n (i + 1).toNat (nxd (op i.toNat) st.length) 1 ∧ op ((i + 1).toNat + n) = 0 ∧ PRel pile st ∧ wvF op one kn f (i + 1).toNat (stp (op i.toNat) (one i.toNat) kn st) = W := by
  obtain ⟨n, f, st, h1, h2, h3, h4, h5, h6, h7, h8, h9, h10, h11⟩ := p
  have ei : (i + 1).toNat = i.toNat + 1 := by omega
  cases n with
  | zero => exact absurd h9 q
  | succ n =>
    cases f with
    | zero => omega
    | succ f =>
      unfold wvF at h11
      rw [if_neg q] at h11
      rw [ei]
      exact ⟨n, f, st, by omega, h2, h3, by omega, by omega, h6, h7, h8.1, h8.2, by rw [show i.toNat + 1 + n = i.toNat + (n + 1) by omega]; exact h9, h10, h11⟩
/-- what the codes ask of the pile -/
theorem WInv.ask {op one kn pile : Nat → Int} {W a i top c : Int} (p : WInv op one kn pile W a i top) (e : op i.toNat = c) (q : ¬ c = 0) : i < 14399 ∧ top ≤ 1598 ∧ (c = 2 → 0 ≤ one i.toNat ∧ one i.toNat ≤ 11) ∧ (c = 3 → 1 ≤ top) ∧ (¬ c = 1 → ¬ c = 2 → ¬ c = 3 → 2 ≤ top) := by
  obtain ⟨n, f, st, h1, h2, h3, h4, h5, h6, h7, h8, -, -, -, -⟩ := p.go (by rw [e]; exact q)
  rw [e] at h8
  obtain ⟨k1, k2, k3, k4⟩ := h8
  exact ⟨by omega, by omega, k2, fun z => by have := k3 z; omega, fun z1 z2 z3 => by have := k4 z1 z2 z3; omega⟩
theorem WInv.push {op one kn pile p2 : Nat → Int} {W a i top x : Int} (p : WInv op one kn pile W a i top) (q : op i.toNat = 1 ∧ x = one i.toNat ∨ op i.toNat = 2 ∧ x = kn (one i.toNat).toNat) (he : p2 top.toNat = x) (hk : ∀ k, k < top.toNat → p2 k = pile k) : WInv op one kn p2 W a (i + 1) (top + 1) := by
  have q0 : ¬ op i.toNat = 0 := by rcases q with q | q <;> (rw [q.1]; decide)
  obtain ⟨n, f, st, h1, h2, h3, h4, h5, h6, h7, h8, h9, h10, h11, h12⟩ := p.go q0
  have et : top.toNat = st.length := by omega
  have es : stp (op i.toNat) (one i.toNat) kn st = x :: st := by
    rcases q with ⟨q, e⟩ | ⟨q, e⟩
    · rw [q, e]; rfl
    · have := h8.2.1 q
      rw [q, e]
      show kn (min (one i.toNat).toNat 11) :: st = _
      rw [Nat.min_eq_left (by omega)]
  have en : nxd (op i.toNat) st.length = st.length + 1 := by
    unfold nxd
    rw [if_pos (by rcases q with q | q; exact Or.inl q.1; exact Or.inr q.1)]
  rw [es] at h12
  rw [en] at h9
  refine ⟨n, f, x :: st, h1, by omega, h3, h4, h5, by simp; omega, by omega, h9, h10, ⟨?_, PRel_congr (fun k hk2 => hk k (by omega)) h11⟩, h12⟩
  rw [← et]; exact he
theorem WInv.neg {op one kn pile p2 : Nat → Int} {W a i top x : Int} (p : WInv op one kn pile W a i top) (q : op i.toNat = 3) (hx : x = notF (pile (top - 1).toNat)) (he : p2 (top - 1).toNat = x) (hk : ∀ k, k < (top - 1).toNat → p2 k = pile k) : WInv op one kn p2 W a (i + 1) top := by
  obtain ⟨n, f, st, h1, h2, h3, h4, h5, h6, h7, h8, h9, h10, h11, h12⟩ := p.go (by rw [q]; decide)
  have h1l := h8.2.2.1 q
  rw [q] at h9 h12
  match st, h1l, h11, h12, h6, h9 with
  | y :: r, _, h11, h12, h6, h9 =>
    have et : (top - 1).toNat = r.length := by simp at h6; omega
    refine ⟨n, f, x :: r, h1, by omega, h3, h4, h5, by simpa using h6, by omega, h9, h10, ⟨?_, PRel_congr (fun k hk2 => hk k (by omega)) h11.2⟩, ?_⟩
    · rw [← et]; exact he
    · rw [hx, et, h11.1]; exact h12
theorem WInv.bin {op one kn pile p2 : Nat → Int} {W a i top x : Int} (p : WInv op one kn pile W a i top) (q0 : ¬ op i.toNat = 0) (q1 : ¬ op i.toNat = 1) (q2 : ¬ op i.toNat = 2) (q3 : ¬ op i.toNat = 3) (hx : x = bothF (op i.toNat) (pile (top - 2).toNat) (pile (top - 1).toNat)) (he : p2 (top - 2).toNat = x) (hk : ∀ k, k < (top - 2).toNat → p2 k = pile k) : WInv op one kn p2 W a (i + 1) (top - 1) := by
  obtain ⟨n, f, st, h1, h2, h3, h4, h5, h6, h7, h8, h9, h10, h11, h12⟩ := p.go q0
  have h2l := h8.2.2.2 q1 q2 q3
  have es : ∀ y z r, stp (op i.toNat) (one i.toNat) kn (y :: z :: r) = bothF (op i.toNat) z y :: r := fun y z r => by
    unfold stp
    rw [if_neg q1, if_neg q2, if_neg q3]
  have en : nxd (op i.toNat) st.length = st.length - 1 := by
    unfold nxd
    rw [if_neg (by rintro (z | z); exact q1 z; exact q2 z), if_neg q3]
  rw [en] at h9
  match st, h2l, h11, h12, h6, h9 with
  | y :: z :: r, _, h11, h12, h6, h9 =>
    have e1 : (top - 1).toNat = (z :: r).length := by simp at h6 ⊢; omega
    have e2 : (top - 2).toNat = r.length := by simp at h6; omega
    rw [es] at h12
    refine ⟨n, f, x :: r, h1, by omega, h3, h4, h5, by simp at h6 ⊢; omega, by omega, by simpa using h9, h10, ⟨?_, PRel_congr (fun k hk2 => hk k (by omega)) h11.2.2⟩, ?_⟩
    · rw [← e2]; exact he
    · rw [hx, e1, e2, h11.1, h11.2.1]; exact h12
/-! lines of the rules in force -/
def lnF (lk la : Nat → Int) (kind : Int) (w : Int → Int) (b : Int) : Nat → Int → Int
  | 0, _ => -1
  | n + 1, k => if lk (24 * b + k).toNat = kind ∧ ¬ w (la (24 * b + k).toNat) = 0 then k else lnF lk la kind w b n (k + 1)
def LO (h : Hp) (m : Nat) (kind : Int) (kn : Nat → Int) : Int := if BNow h m < 0 then -1 else lnF (Iv h (Rv h m 25)) (Iv h (Rv h m 27)) kind (wv (Iv h (Rv h m 29)) (Iv h (Rv h m 30)) kn) (BNow h m) (Iv h (Rv h m 24) (BNow h m).toNat).toNat 0
def loD : List Nat := [2410, 2411, 2433, 2434, 111100 * 200, 2424, 2425, 2427, 2429, 2430, 124100 * 200, 125100 * 200, 127100 * 200, 129100 * 200, 130100 * 200]
theorem all_sub {wr d1 d2 : List Nat} (hw : d1.all (fun e => !wr.elem e) = true) (h : d2.all (fun e => d1.elem e) = true) : d2.all (fun e => !wr.elem e) = true := List.all_eq_true.mpr (fun e he => by
  have h2 := List.all_eq_true.mp h e he
  have := w_of hw h2
  simp only [this, Bool.not_false])
theorem LO_fx {wr : List Nat} {h h1 : Hp} {m : Nat} {kind : Int} {kn : Nat → Int} (O : Okh h) (F : Fx wr h h1) (t : Tg h m = 12) (hw : loD.all (fun e => !wr.elem e) = true) : LO h1 m kind kn = LO h m kind kn := by
  unfold LO
  rw [BNow_fx O F t (all_sub hw (by decide)), mAI (j := 24) O F t rE_12_24 ar_124100 (w_of hw rfl) (w_of hw rfl), mAI (j := 25) O F t rE_12_25 ar_125100 (w_of hw rfl) (w_of hw rfl), mAI (j := 27) O F t rE_12_27 ar_127100 (w_of hw rfl) (w_of hw rfl), mAI (j := 29) O F t rE_12_29 ar_129100 (w_of hw rfl) (w_of hw rfl), mAI (j := 30) O F t rE_12_30 ar_130100 (w_of hw rfl) (w_of hw rfl)]
theorem lnF_congr {lk la : Nat → Int} {kind b : Int} {w w2 : Int → Int} (hw : ∀ a, w a = w2 a) : ∀ (n : Nat) (k : Int), lnF lk la kind w b n k = lnF lk la kind w2 b n k := by
  intro n
  induction n with
  | zero => intro k; rfl
  | succ n ih => intro k; unfold lnF; rw [hw, ih]
theorem LO_kn {h : Hp} {m : Nat} {kind : Int} {kn kn2 : Nat → Int} (hk : ∀ k, k ≤ 11 → kn k = kn2 k) : LO h m kind kn = LO h m kind kn2 := by
  unfold LO
  have e : wv (Iv h (Rv h m 29)) (Iv h (Rv h m 30)) kn = wv (Iv h (Rv h m 29)) (Iv h (Rv h m 30)) kn2 := funext (fun a => wvF_congr hk 14401 a.toNat [])
  rw [e]
theorem lnF_hit {lk la : Nat → Int} {kind b k : Int} {w : Int → Int} {n : Nat} (hn : 0 < n) (q1 : lk (24 * b + k).toNat = kind) (q2 : ¬ w (la (24 * b + k).toNat) = 0) : lnF lk la kind w b n k = k := by
  cases n with
  | zero => omega
  | succ n => unfold lnF; rw [if_pos ⟨q1, q2⟩]
theorem lnF_miss {lk la : Nat → Int} {kind b k : Int} {w : Int → Int} {n : Nat} (hn : 0 < n) (q : ¬ (lk (24 * b + k).toNat = kind ∧ ¬ w (la (24 * b + k).toNat) = 0)) : lnF lk la kind w b n k = lnF lk la kind w b (n - 1) (k + 1) := by
  cases n with
  | zero => omega
  | succ n =>
    have e : lnF lk la kind w b (n + 1) k = (if lk (24 * b + k).toNat = kind ∧ ¬ w (la (24 * b + k).toNat) = 0 then k else lnF lk la kind w b n (k + 1)) := rfl
    rw [e, if_neg q, Nat.add_sub_cancel]
/-- a book (number b) of rules -/
def LOb (op one : Nat → Int) (a : Int) (b : Nat) : Prop := ∃ n : Nat, 1600 * b ≤ a ∧ a + n < 1600 * b + 1600 ∧ stk op one n a.toNat 0 1 ∧ op (a.toNat + n) = 0
theorem LOb.lk {op one : Nat → Int} {a : Int} {b : Nat} (hb : (b : Int) ≤ 7) (p : LOb op one a b) : LOk op one a := by
  obtain ⟨n, h1, h2, h3, h4⟩ := p
  exact ⟨n, by omega, by omega, by omega, h3, h4⟩
def BKb (h : Hp) (m : Nat) (b : Nat) : Prop := ∀ k : Nat, (k : Int) < Iv h (Rv h m 24) b → LOb (Iv h (Rv h m 29)) (Iv h (Rv h m 30)) (Iv h (Rv h m 27) (24 * b + k)) b ∧ (Iv h (Rv h m 25) (24 * b + k) = 1 → Iv h (Rv h m 26) (24 * b + k) ≤ 9)
def BKn (h : Hp) (m : Nat) (n : Int) : Prop := ∀ b : Nat, (b : Int) < n → BKb h m b
def LA (h : Hp) (m : Nat) : Prop := ∀ k : Nat, 192 ≤ k → 0 ≤ Iv h (Rv h m 27) k
def MInv (h : Hp) (m : Nat) : Prop := BKn h m (Iv h m 10) ∧ LA h m
def bkD : List Nat := [2424, 2425, 2426, 2427, 2429, 2430, 124100 * 200, 125100 * 200, 126100 * 200, 127100 * 200, 129100 * 200, 130100 * 200]
theorem BKb_fx {wr : List Nat} {h h1 : Hp} {m b : Nat} (O : Okh h) (F : Fx wr h h1) (t : Tg h m = 12) (hw : bkD.all (fun e => !wr.elem e) = true) (p : BKb h m b) : BKb h1 m b := by
  unfold BKb
  rw [mAI (j := 24) O F t rE_12_24 ar_124100 (w_of hw rfl) (w_of hw rfl), mAI (j := 25) O F t rE_12_25 ar_125100 (w_of hw rfl) (w_of hw rfl), mAI (j := 26) O F t rE_12_26 ar_126100 (w_of hw rfl) (w_of hw rfl), mAI (j := 27) O F t rE_12_27 ar_127100 (w_of hw rfl) (w_of hw rfl), mAI (j := 29) O F t rE_12_29 ar_129100 (w_of hw rfl) (w_of hw rfl), mAI (j := 30) O F t rE_12_30 ar_130100 (w_of hw rfl) (w_of hw rfl)]
  exact p
theorem BKn_fx {wr : List Nat} {h h1 : Hp} {m : Nat} {n : Int} (O : Okh h) (F : Fx wr h h1) (t : Tg h m = 12) (hw : bkD.all (fun e => !wr.elem e) = true) (p : BKn h m n) : BKn h1 m n := fun b hb => BKb_fx O F t hw (p b hb)
theorem LA_fx {wr : List Nat} {h h1 : Hp} {m : Nat} (O : Okh h) (F : Fx wr h h1) (t : Tg h m = 12) (hw : ([2427, 127100 * 200] : List Nat).all (fun e => !wr.elem e) = true) (p : LA h m) : LA h1 m := fun k hk => by
  rw [mAI (j := 27) O F t rE_12_27 ar_127100 (w_of hw rfl) (w_of hw rfl)]
  exact p k hk
def miD : List Nat := [2410, 2424, 2425, 2426, 2427, 2429, 2430, 124100 * 200, 125100 * 200, 126100 * 200, 127100 * 200, 129100 * 200, 130100 * 200]
theorem MInv_fx {wr : List Nat} {h h1 : Hp} {m : Nat} (O : Okh h) (F : Fx wr h h1) (t : Tg h m = 12) (hw : miD.all (fun e => !wr.elem e) = true) (p : MInv h m) : MInv h1 m := by
  refine ⟨?_, LA_fx O F t (all_sub hw (by decide)) p.2⟩
  rw [mIv (j := 10) F t (w_of hw rfl)]
  exact BKn_fx O F t (all_sub hw (by decide)) p.1
theorem MInv.book {h : Hp} {m : Nat} {b : Int} (O : Okh h) (t : Tg h m = 12) (p : MInv h m) (e : BNow h m = b) (hb : 0 ≤ b) : BKb h m b.toNat := p.1 b.toNat (by
  have := BNow_lt O t
  omega)
/-- the facts of a sight -/
def knF (h : Hp) (m : Nat) (s : Int) : Nat → Int := fun k =>
  if k = 0 then Iv h (Rv h m 45) s.toNat / 1000 else if k = 1 then Iv h (Rv h m 45) s.toNat / 100 % 10 else if k = 2 then Iv h (Rv h m 45) s.toNat / 10 % 10 else if k = 3 then Iv h (Rv h m 45) s.toNat % 10 else if k = 4 then Iv h (Rv h m 41) s.toNat else if k = 5 then Iv h (Rv h m 44) s.toNat else if k = 6 then Iv h (Rv h m 43) s.toNat else if k = 7 then Iv h (Rv h m 36) (Iv h (Rv h m 42) s.toNat).toNat else 0
def NB (h : Hp) (m : Nat) (s : Int) : Int := LO h m 1 (knF h m s)
def RK (h : Hp) (m : Nat) (s : Int) : Int := if NB h m s < 0 then -1 else Iv h (Rv h m 26) (24 * BNow h m + NB h m s).toNat
def rkD : List Nat := [2410, 2411, 2433, 2434, 111100 * 200, 2424, 2425, 2426, 2427, 2429, 2430, 124100 * 200, 125100 * 200, 126100 * 200, 127100 * 200, 129100 * 200, 130100 * 200, 2436, 2441, 2442, 2443, 2444, 2445, 136100 * 200, 141100 * 200, 142100 * 200, 143100 * 200, 144100 * 200, 145100 * 200]
theorem knF_fx {wr : List Nat} {h h1 : Hp} {m : Nat} {s : Int} (O : Okh h) (F : Fx wr h h1) (t : Tg h m = 12) (hw : rkD.all (fun e => !wr.elem e) = true) : knF h1 m s = knF h m s := by
  unfold knF
  rw [mAI (j := 45) O F t rE_12_45 ar_145100 (w_of hw rfl) (w_of hw rfl), mAI (j := 41) O F t rE_12_41 ar_141100 (w_of hw rfl) (w_of hw rfl), mAI (j := 44) O F t rE_12_44 ar_144100 (w_of hw rfl) (w_of hw rfl), mAI (j := 43) O F t rE_12_43 ar_143100 (w_of hw rfl) (w_of hw rfl), mAI (j := 36) O F t rE_12_36 ar_136100 (w_of hw rfl) (w_of hw rfl), mAI (j := 42) O F t rE_12_42 ar_142100 (w_of hw rfl) (w_of hw rfl)]
theorem NB_fx {wr : List Nat} {h h1 : Hp} {m : Nat} {s : Int} (O : Okh h) (F : Fx wr h h1) (t : Tg h m = 12) (hw : rkD.all (fun e => !wr.elem e) = true) : NB h1 m s = NB h m s := by
  unfold NB
  rw [knF_fx O F t hw, LO_fx O F t (all_sub hw (by decide))]
theorem RK_fx {wr : List Nat} {h h1 : Hp} {m : Nat} {s : Int} (O : Okh h) (F : Fx wr h h1) (t : Tg h m = 12) (hw : rkD.all (fun e => !wr.elem e) = true) : RK h1 m s = RK h m s := by
  unfold RK
  rw [NB_fx O F t hw, BNow_fx O F t (all_sub hw (by decide)), mAI (j := 26) O F t rE_12_26 ar_126100 (w_of hw rfl) (w_of hw rfl)]
theorem lnF_rng {lk la : Nat → Int} {kind b : Int} {w : Int → Int} : ∀ (n : Nat) (k : Int), lnF lk la kind w b n k = -1 ∨ (k ≤ lnF lk la kind w b n k ∧ lnF lk la kind w b n k < k + n ∧ lk (24 * b + lnF lk la kind w b n k).toNat = kind) := by
  intro n
  induction n with
  | zero => intro k; exact Or.inl rfl
  | succ n ih =>
    intro k
    unfold lnF
    split
    · rename_i q
      exact Or.inr ⟨Int.le_refl k, by omega, q.1⟩
    · rcases ih (k + 1) with q | ⟨q1, q2, q3⟩
      · exact Or.inl q
      · exact Or.inr ⟨by omega, by omega, q3⟩
theorem LO_spec {h : Hp} {m : Nat} {kind r : Int} {kn : Nat → Int} (O : Okh h) (t : Tg h m = 12) (e : LO h m kind kn = r) : r = -1 ∨ (0 ≤ BNow h m ∧ 0 ≤ r ∧ r < Iv h (Rv h m 24) (BNow h m).toNat ∧ Iv h (Rv h m 25) (24 * BNow h m + r).toNat = kind) := by
  subst e
  unfold LO
  split
  · exact Or.inl rfl
  · rename_i q
    have l0 := ok_Ia O (ok_R O t rE_12_24 rfl) ar_124100 rI_124100_0 (j := (BNow h m).toNat) rfl
    rcases lnF_rng (lk := Iv h (Rv h m 25)) (la := Iv h (Rv h m 27)) (kind := kind) (b := BNow h m) (w := wv (Iv h (Rv h m 29)) (Iv h (Rv h m 30)) kn) (Iv h (Rv h m 24) (BNow h m).toNat).toNat 0 with z | ⟨z1, z2, z3⟩
    · exact Or.inl z
    · exact Or.inr ⟨by omega, z1, by omega, z3⟩
theorem knF_hi {h : Hp} {m k : Nat} {s : Int} (hk : 8 ≤ k) : knF h m s k = 0 := by
  unfold knF
  rw [if_neg (by omega), if_neg (by omega), if_neg (by omega), if_neg (by omega), if_neg (by omega), if_neg (by omega), if_neg (by omega), if_neg (by omega)]
/-! days: both sides in one word -/
def dyF (n now : Int) : Int := if n < 0 ∨ 1000 < n ∨ 9999 < now + n then -1 else now + n
def dnF (n now : Int) : Int := if n < 0 ∨ 1000 < n ∨ 9999 < now + n then now else now + n
