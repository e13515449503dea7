/-! MP4: bounds counted by sides, the ring, the ways, the best -/
def dxF (w : Int) : Int := if w = 0 then -1 else if w = 1 then 1 else 0
def dzF (w : Int) : Int := if w = 2 then -1 else if w = 3 then 1 else 0
def nbXY (x y : Int) : Int := if 0 ≤ x ∧ x ≤ 11 ∧ 0 ≤ y ∧ y ≤ 7 then 12 * y + x else -1
def nbI (c w : Int) : Int := nbXY (c % 12 + dxF w) (c / 12 + dzF w)
def kf (x n : Int) : Int := if x ≤ n then (if n = x + 1 then 2 * x else 2 * x + 1) else (if x = n + 1 then 2 * n else 2 * n + 1)
def posV (x w : Int) : Int := if w < 0 ∨ nbI x w < 0 then -1 else kf x (nbI x w)
def PF (h : Hp) (m : Nat) : Nat → Int := fun s => posV (Iv h (Rv h m 42) s) (Iv h (Rv h m 48) s)
theorem posV_eq {x w c d r : Int} (hw : 0 ≤ w) (hx : x = c) (hr : r = nbI c w) (hd : r = d) (h0 : 0 ≤ d) : posV x w = kf c d := by
  unfold posV
  subst hx
  rw [← hr, hd, if_neg (by omega)]
theorem kf_sym (x n : Int) : kf x n = kf n x := by
  unfold kf
  by_cases h1 : x ≤ n
  · by_cases h2 : n ≤ x
    · have e : x = n := by omega
      subst e; rfl
    · rw [if_pos h1, if_neg h2]
  · have h2 : n ≤ x := by omega
    rw [if_neg h1, if_pos h2]
theorem kf_r (c : Int) : kf c (c + 1) = 2 * c := by unfold kf; rw [if_pos (by omega), if_pos rfl]
theorem kf_d (c : Int) : kf c (c + 12) = 2 * c + 1 := by unfold kf; rw [if_pos (by omega), if_neg (by omega)]
def ceq (p : Nat → Int) (K : Int) : Nat → Int
  | 0 => 0
  | n + 1 => if p n = K then ceq p K n + 1 else ceq p K n
def clt (p : Nat → Int) (K : Int) : Nat → Int
  | 0 => 0
  | n + 1 => if 0 ≤ p n ∧ p n < K then clt p K n + 1 else clt p K n
theorem ceq_mono {p : Nat → Int} {K : Int} : ∀ {n k : Nat}, n ≤ k → ceq p K n ≤ ceq p K k := by
  intro n k
  induction k with
  | zero => intro h; rw [show n = 0 by omega]; exact Int.le_refl _
  | succ k ih =>
    intro h
    by_cases e : n = k + 1
    · rw [e]; exact Int.le_refl _
    · have q := ih (by omega)
      have e2 : ceq p K (k + 1) = (if p k = K then ceq p K k + 1 else ceq p K k) := rfl
      rw [e2]
      by_cases c : p k = K
      · rw [if_pos c]; omega
      · rw [if_neg c]; exact q
theorem ceq_z {p : Nat → Int} {K : Int} {n : Nat} : 0 ≤ ceq p K n := ceq_mono (p := p) (K := K) (Nat.zero_le n)
theorem ceq_hit {p : Nat → Int} {K x : Int} (h0 : 0 ≤ x) (q : p x.toNat = K) : ceq p K (x + 1).toNat = ceq p K x.toNat + 1 := by
  rw [show (x + 1).toNat = x.toNat + 1 by omega]
  show (if p x.toNat = K then ceq p K x.toNat + 1 else ceq p K x.toNat) = _
  rw [if_pos q]
theorem clt_rng {p : Nat → Int} {K : Int} : ∀ n : Nat, 0 ≤ clt p K n ∧ clt p K n ≤ (n : Int) := by
  intro n
  induction n with
  | zero => exact ⟨Int.le_refl 0, Int.le_refl 0⟩
  | succ n ih =>
    unfold clt
    split <;> omega
theorem clt_succ {p : Nat → Int} {K : Int} (hK : 0 ≤ K) : ∀ n : Nat, clt p (K + 1) n = clt p K n + ceq p K n := by
  intro n
  induction n with
  | zero => rfl
  | succ n ih =>
    have e1 : clt p (K + 1) (n + 1) = (if 0 ≤ p n ∧ p n < K + 1 then clt p (K + 1) n + 1 else clt p (K + 1) n) := rfl
    have e2 : clt p K (n + 1) = (if 0 ≤ p n ∧ p n < K then clt p K n + 1 else clt p K n) := rfl
    have e3 : ceq p K (n + 1) = (if p n = K then ceq p K n + 1 else ceq p K n) := rfl
    rw [e1, e2, e3, ih]
    by_cases a : p n = K
    · rw [if_pos (by omega), if_neg (by omega), if_pos a]; omega
    · rw [if_neg a]
      by_cases b : 0 ≤ p n ∧ p n < K
      · rw [if_pos (by omega), if_pos b]; omega
      · rw [if_neg (by omega), if_neg b]
theorem clt_2 {p : Nat → Int} {c : Int} (hc : 0 ≤ c) : clt p (2 * (c + 1)) 40 = clt p (2 * c) 40 + ceq p (2 * c) 40 + ceq p (2 * c + 1) 40 := by
  rw [show 2 * (c + 1) = (2 * c + 1) + 1 by omega, clt_succ (by omega), clt_succ (by omega)]
/-! rounds of an own map -/
def itN (f : Nat → Nat) : Nat → Nat → Nat
  | 0, x => x
  | n + 1, x => itN f n (f x)
theorem itN_add (f : Nat → Nat) : ∀ (n k x : Nat), itN f (n + k) x = itN f k (itN f n x) := by
  intro n
  induction n with
  | zero => intro k x; rw [Nat.zero_add]; rfl
  | succ n ih => intro k x; rw [show n + 1 + k = (n + k) + 1 by omega]; exact ih k (f x)
theorem itN_out (f : Nat → Nat) (n x : Nat) : itN f (n + 1) x = f (itN f n x) := by rw [itN_add f n 1 x]; rfl
theorem pigeon : ∀ (n : Nat) (f : Nat → Nat), (∀ i, i ≤ n → f i < n) → ∃ i j, i < j ∧ j ≤ n ∧ f i = f j := by
  intro n
  induction n with
  | zero => intro f h; exact absurd (h 0 (Nat.le_refl 0)) (by omega)
  | succ n ih =>
    intro f h
    by_cases c : ∃ i, i ≤ n ∧ f i = f (n + 1)
    · obtain ⟨i, h1, h2⟩ := c
      exact ⟨i, n + 1, by omega, Nat.le_refl _, h2⟩
    · have hl := h (n + 1) (Nat.le_refl _)
      obtain ⟨i, j, h1, h2, h3⟩ := ih (fun i => if f (n + 1) < f i then f i - 1 else f i) (fun i hi => by
        have a := h i (by omega)
        have b : f i ≠ f (n + 1) := fun e => c ⟨i, hi, e⟩
        show (if f (n + 1) < f i then f i - 1 else f i) < n
        split <;> omega)
      have bi : f i ≠ f (n + 1) := fun e => c ⟨i, by omega, e⟩
      have bj : f j ≠ f (n + 1) := fun e => c ⟨j, by omega, e⟩
      refine ⟨i, j, h1, by omega, ?_⟩
      have h3' : (if f (n + 1) < f i then f i - 1 else f i) = (if f (n + 1) < f j then f j - 1 else f j) := h3
      split at h3' <;> split at h3' <;> omega
def RG (f : Nat → Nat) (bk : Nat → Int) (v u : Nat) : Prop := (∀ q, 0 ≤ bk (itN f q u)) ∧ ∃ q, q < 97 ∧ itN f (q + 1) u = v
theorem ring_cycle {f : Nat → Nat} {bk : Nat → Int} {x : Nat} (hb : ∀ j, j ≤ 97 → 0 ≤ bk (itN f j x) ∧ itN f j x < 97) : RG f bk (itN f 97 x) (itN f 97 x) := by
  obtain ⟨i, j, h1, h2, h3⟩ := pigeon 97 (fun j => itN f j x) (fun j hj => (hb j hj).2)
  have h3' : itN f i x = itN f j x := h3
  have key : ∀ N, 0 ≤ bk (itN f N x) := by
    intro N
    induction N using Nat.strongRecOn with
    | ind N ih =>
      by_cases c : N ≤ 97
      · exact (hb N c).1
      · have e : itN f N x = itN f (i + (N - j)) x := by
          rw [show N = j + (N - j) by omega, itN_add, ← h3', ← itN_add, show j + (N - j) - j = N - j by omega]
        rw [e]
        exact ih _ (by omega)
  refine ⟨fun q => ?_, j - i - 1, by omega, ?_⟩
  · rw [← itN_add]; exact key _
  · rw [← itN_add, show 97 + (j - i - 1 + 1) = j + (97 - i) by omega, itN_add, ← h3', ← itN_add, show i + (97 - i) = 97 by omega]
theorem RG.step {f : Nat → Nat} {bk : Nat → Int} {v u : Nat} (p : RG f bk v u) (h : ¬ f u = v) : RG f bk v (f u) := by
  obtain ⟨h1, q, h2, h3⟩ := p
  refine ⟨fun k => h1 (k + 1), ?_⟩
  cases q with
  | zero => exact absurd h3 h
  | succ q => exact ⟨q, by omega, h3⟩
def dst (f : Nat → Nat) (v : Nat) : Nat → Nat → Nat
  | 0, _ => 0
  | k + 1, u => if f u = v then 0 else dst f v k (f u) + 1
theorem dst_stable {f : Nat → Nat} {v : Nat} : ∀ {k u : Nat}, (∃ q, q < k ∧ itN f (q + 1) u = v) → dst f v (k + 1) u = dst f v k u := by
  intro k
  induction k with
  | zero => intro u ⟨q, h, _⟩; omega
  | succ k ih =>
    intro u ⟨q, h1, h2⟩
    have e1 : dst f v (k + 1 + 1) u = (if f u = v then 0 else dst f v (k + 1) (f u) + 1) := rfl
    have e2 : dst f v (k + 1) u = (if f u = v then 0 else dst f v k (f u) + 1) := rfl
    rw [e1, e2]
    by_cases c : f u = v
    · rw [if_pos c, if_pos c]
    · rw [if_neg c, if_neg c]
      cases q with
      | zero => exact absurd h2 c
      | succ q => rw [ih ⟨q, by omega, h2⟩]
theorem dst_lt {f : Nat → Nat} {bk : Nat → Int} {v u : Nat} (p : RG f bk v u) (h : ¬ f u = v) : dst f v 97 (f u) < dst f v 97 u := by
  obtain ⟨q, h2, h3⟩ := (p.step h).2
  obtain ⟨q0, g2, g3⟩ := p.2
  have hq : ∃ q, q < 96 ∧ itN f (q + 1) (f u) = v := by
    cases q0 with
    | zero => exact absurd g3 h
    | succ q0 => exact ⟨q0, by omega, g3⟩
  have e1 : dst f v 97 u = (if f u = v then 0 else dst f v 96 (f u) + 1) := rfl
  rw [e1, if_neg h, dst_stable hq]
  omega
def mwF (more s : Int) : Int := if more = 0 then 0 else s + 1
theorem mwF_lt {a s b r : Int} (ha : ¬ a = 0) (hs : 0 ≤ s) (h : b = 0 ∨ (0 ≤ r ∧ r < s)) : (mwF b r).toNat < (mwF a s).toNat := by
  unfold mwF
  rw [if_neg ha]
  by_cases c : b = 0
  · rw [if_pos c]; omega
  · rw [if_neg c]; omega
/-! passes over all bounds: when each place was lowered last -/
def GI (fr to wt rc bk : Nat → Int) (n p k last : Int) : Prop := ∃ t : Nat → Int, (∀ v, v < 97 → -1 ≤ t v ∧ t v ≤ p) ∧ (∀ v, v < 97 → 0 ≤ t v → 0 ≤ bk v ∧ bk v < n ∧ t v ≤ t (fr (bk v).toNat).toNat + 1) ∧ (∀ e : Nat, (e : Int) < n → (t (fr e).toNat ≤ p - 2 ∨ ((e : Int) < k ∧ t (fr e).toNat ≤ p - 1)) → rc (to e).toNat ≤ w32 (rc (fr e).toNat + wt e)) ∧ (0 ≤ last → last < 97 ∧ t last.toNat = p)
theorem GI.start {fr to wt rc bk : Nat → Int} {n : Int} : GI fr to wt rc bk n (0 - 1) n (-1) := ⟨fun _ => -1, fun v _ => ⟨Int.le_refl (-1), by show (-1 : Int) ≤ 0 - 1; omega⟩, fun v _ h => absurd (show (0 : Int) ≤ -1 from h) (by decide), fun e _ h => absurd (show (-1 : Int) ≤ 0 - 1 - 2 ∨ ((e : Int) < n ∧ (-1 : Int) ≤ 0 - 1 - 1) from h) (by omega), fun h => absurd h (by decide)⟩
theorem GI.next {fr to wt rc bk : Nat → Int} {n p last : Int} (g : GI fr to wt rc bk n (p - 1) n last) : GI fr to wt rc bk n p 0 (-1) := by
  obtain ⟨t, h1, h2, h3, -⟩ := g
  exact ⟨t, fun v hv => by have := h1 v hv; omega, h2, fun e he q => h3 e he (Or.inr ⟨he, by omega⟩), fun h => absurd h (by decide)⟩
theorem GI.no {fr to wt rc bk : Nat → Int} {n p k last : Int} (g : GI fr to wt rc bk n p k last) (h0 : 0 ≤ k) (q : rc (to k.toNat).toNat ≤ w32 (rc (fr k.toNat).toNat + wt k.toNat)) : GI fr to wt rc bk n p (k + 1) last := by
  obtain ⟨t, h1, h2, h3, h4⟩ := g
  refine ⟨t, h1, h2, fun e he z => ?_, h4⟩
  by_cases c : (e : Int) = k
  · rw [show e = k.toNat by omega]; exact q
  · exact h3 e he (by omega)
theorem GI.yes {fr to wt rc bk rc2 bk2 : Nat → Int} {n p k last r : Int} {v : Nat} (g : GI fr to wt rc bk n p k last) (h0 : 0 ≤ k) (hp : 0 ≤ p) (hk : k < n) (hfr : ∀ e, 0 ≤ fr e ∧ fr e ≤ 96) (hv : v = (to k.toNat).toNat) (hv97 : v < 97) (hr : r = w32 (rc (fr k.toNat).toNat + wt k.toNat)) (hlt : r < rc v) (e1 : rc2 v = r) (e2 : ∀ x, x ≠ v → rc2 x = rc x) (e3 : bk2 v = k) (e4 : ∀ x, x ≠ v → bk2 x = bk x) : GI fr to wt rc2 bk2 n p (k + 1) (v : Int) := by
  obtain ⟨t, h1, h2, h3, h4⟩ := g
  have fl : ∀ e, (fr e).toNat < 97 := fun e => by have := hfr e; omega
  have hu : p - 1 ≤ t (fr k.toNat).toNat := by
    refine Classical.byContradiction fun z => ?_
    have q := h3 k.toNat (by omega) (Or.inl (by omega))
    rw [← hv, ← hr] at q
    omega
  refine ⟨fun x => if x = v then p else t x, fun x hx => ?_, fun x hx q => ?_, fun e he q => ?_, fun _ => ⟨by omega, ?_⟩⟩
  · show -1 ≤ (if x = v then p else t x) ∧ (if x = v then p else t x) ≤ p
    have := h1 x hx
    split <;> omega
  · have q' : 0 ≤ (if x = v then p else t x) := q
    show 0 ≤ bk2 x ∧ bk2 x < n ∧ (if x = v then p else t x) ≤ (if (fr (bk2 x).toNat).toNat = v then p else t (fr (bk2 x).toNat).toNat) + 1
    by_cases c : x = v
    · rw [if_pos c, c, e3]
      refine ⟨h0, hk, ?_⟩
      split <;> omega
    · rw [if_neg c] at q' ⊢
      rw [e4 x c]
      obtain ⟨a1, a2, a3⟩ := h2 x hx q'
      refine ⟨a1, a2, ?_⟩
      split
      · have := h1 x hx; omega
      · exact a3
  · have q' : (if (fr e).toNat = v then p else t (fr e).toNat) ≤ p - 2 ∨ ((e : Int) < k + 1 ∧ (if (fr e).toNat = v then p else t (fr e).toNat) ≤ p - 1) := q
    have c : ¬ (fr e).toNat = v := fun c => by rw [if_pos c] at q'; omega
    rw [if_neg c] at q'
    rw [e2 _ c]
    by_cases ek : (e : Int) = k
    · have eke : e = k.toNat := by omega
      rw [eke, ← hr, ← hv, e1]
      exact Int.le_refl r
    · have old := h3 e he (by omega)
      by_cases d : (to e).toNat = v
      · rw [d, e1]; rw [d] at old; omega
      · rw [e2 _ d]; exact old
  · show (if ((v : Int).toNat) = v then p else _) = p
    rw [if_pos (by omega)]
def fN (h : Hp) (m : Nat) : Nat → Nat := fun v => (Iv h (Rv h m 63) (Iv h (Rv h m 68) v).toNat).toNat
def FRI (f : Nat → Nat) (bk : Nat → Int) (x : Nat) (k v : Int) : Prop := v.toNat = itN f k.toNat x ∧ ∀ j, j ≤ 97 → 0 ≤ bk (itN f j x) ∧ itN f j x < 97
theorem FRI.start {h : Hp} {m : Nat} {last p : Int} (O : Okh h) (t : Tg h m = 12) (hp : 97 ≤ p) (hl : 0 ≤ last) (g : GI (Iv h (Rv h m 63)) (Iv h (Rv h m 64)) (Iv h (Rv h m 65)) (Iv h (Rv h m 67)) (Iv h (Rv h m 68)) (Iv h m 62) p (Iv h m 62) last) : FRI (fN h m) (Iv h (Rv h m 68)) last.toNat 0 last := by
  obtain ⟨ts, h1, h2, h3, h4⟩ := g
  obtain ⟨l97, tl⟩ := h4 hl
  have fl : ∀ e, (Iv h (Rv h m 63) e).toNat < 97 := fun e => by
    have := ok_Ia O (ok_R O t rE_12_63 rfl) ar_163100 rI_163100_0 (j := e) rfl
    omega
  have key : ∀ j : Nat, j ≤ 97 → itN (fN h m) j last.toNat < 97 ∧ p - j ≤ ts (itN (fN h m) j last.toNat) := by
    intro j
    induction j with
    | zero => intro _; exact ⟨by show last.toNat < 97; omega, by show p - ((0 : Nat) : Int) ≤ ts last.toNat; omega⟩
    | succ j ih =>
      intro hj
      obtain ⟨a1, a2⟩ := ih (by omega)
      obtain ⟨b1, b2, b3⟩ := h2 _ a1 (by omega)
      rw [itN_out]
      exact ⟨fl _, by show p - ((j + 1 : Nat) : Int) ≤ ts (Iv h (Rv h m 63) (Iv h (Rv h m 68) (itN (fN h m) j last.toNat)).toNat).toNat; omega⟩
  exact ⟨rfl, fun j hj => by
    obtain ⟨a1, a2⟩ := key j hj
    exact ⟨(h2 _ a1 (by omega)).1, a1⟩⟩
theorem FRI.ix {f : Nat → Nat} {bk : Nat → Int} {x : Nat} {k v : Int} (p : FRI f bk x k v) (hk : 0 ≤ k ∧ k ≤ 97) : 0 ≤ bk v.toNat := by
  rw [p.1]; exact (p.2 _ (by omega)).1
theorem FRI.step {f : Nat → Nat} {bk : Nat → Int} {x : Nat} {k v w : Int} (p : FRI f bk x k v) (hk : 0 ≤ k) (hw : w.toNat = f v.toNat) : FRI f bk x (k + 1) w := ⟨by rw [hw, p.1, show (k + 1).toNat = k.toNat + 1 by omega, itN_out], p.2⟩
theorem FRI.ring {f : Nat → Nat} {bk : Nat → Int} {x : Nat} {k v : Int} (p : FRI f bk x k v) (hk : k = 97) : RG f bk v.toNat v.toNat := by
  have e : v.toNat = itN f 97 x := by rw [p.1, hk]; rfl
  rw [e]
  exact ring_cycle p.2
/-! ways: what is left to be lowered -/
def sumN (g : Nat → Nat) : Nat → Nat
  | 0 => 0
  | n + 1 => sumN g n + g n
theorem sumN_lt {g g2 : Nat → Nat} {j : Nat} (he : ∀ k, k ≠ j → g2 k = g k) (hl : g2 j < g j) : ∀ n, (j < n → sumN g2 n < sumN g n) ∧ (n ≤ j → sumN g2 n = sumN g n) := by
  intro n
  induction n with
  | zero => exact ⟨fun h => absurd h (by omega), fun _ => rfl⟩
  | succ n ih =>
    have e1 : sumN g2 (n + 1) = sumN g2 n + g2 n := rfl
    have e2 : sumN g (n + 1) = sumN g n + g n := rfl
    refine ⟨fun h => ?_, fun h => ?_⟩
    · by_cases c : n = j
      · have := ih.2 (by omega)
        rw [e1, e2, c] at *
        rw [c] at this
        omega
      · have := ih.1 (by omega)
        have := he n c
        omega
    · have := ih.2 (by omega)
      have := he n (by omega)
      omega
def SW (h : Hp) (m : Nat) : Int := ((sumN (fun v => (Iv h (Rv h m 67) v + 2147483648).toNat) 97 : Nat) : Int)
theorem SW_z {h : Hp} {m : Nat} : 0 ≤ SW h m := Int.natCast_nonneg _
theorem SW_lt {h h1 : Hp} {m a j : Nat} {v old : Int} (r : Rv h m 67 = a) (hh : sI h a j v = h1) (hj : j < 97) (eo : Iv h a j = old) (hv : v < old) (hr : -2147483648 ≤ v) : SW h1 m < SW h m := by
  unfold SW
  rw [pIR hh, r]
  have q := (sumN_lt (g := fun v => (Iv h a v + 2147483648).toNat) (g2 := fun v => (Iv h1 a v + 2147483648).toNat) (j := j) (fun k hk => by show (Iv h1 a k + 2147483648).toNat = (Iv h a k + 2147483648).toNat; rw [pI_j hh hk]) (by show (Iv h1 a j + 2147483648).toNat < (Iv h a j + 2147483648).toNat; rw [pI_e hh, eo]; omega) 97).1 hj
  omega
theorem SW_fx {wr : List Nat} {h h1 : Hp} {m : Nat} (O : Okh h) (F : Fx wr h h1) (t : Tg h m = 12) (hw : ([2467, 167100 * 200] : List Nat).all (fun e => !wr.elem e) = true) : SW h1 m = SW h m := by
  unfold SW
  rw [mAI (j := 67) O F t rE_12_67 ar_167100 (w_of hw rfl) (w_of hw rfl)]
/-! grounds -/
def IG (h h1 : Hp) (m : Nat) (s : Int) : Prop := ∀ j : Nat, ¬ (j : Int) = s → Iv h1 (Rv h1 m 70) j = Iv h (Rv h m 70) j
theorem IG.rf {h : Hp} {m : Nat} {s : Int} : IG h h m s := fun _ _ => rfl
theorem IG.trans {h h1 h2 : Hp} {m : Nat} {s : Int} (a : IG h h1 m s) (b : IG h1 h2 m s) : IG h h2 m s := fun j hj => (b j hj).trans (a j hj)
theorem IG_fx {wr : List Nat} {h h1 : Hp} {m : Nat} {s : Int} (O : Okh h) (F : Fx wr h h1) (t : Tg h m = 12) (hw : ([2470, 170101 * 200] : List Nat).all (fun e => !wr.elem e) = true) : IG h h1 m s := fun j _ => by
  rw [mAI (j := 70) O F t rE_12_70 ar_170101 (w_of hw rfl) (w_of hw rfl)]
theorem IG_w {h h1 : Hp} {m a i : Nat} {s v : Int} (hh : sI h a i v = h1) (hi : (i : Int) = s) : IG h h1 m s := fun j hj => by
  rw [pIR hh, pI_j hh (by omega)]
def BG (h : Hp) (m : Nat) (n : Int) : Prop := Iv h m 77 < 0 → ∀ j : Nat, (j : Int) < n → Iv h (Rv h m 70) j = 0
theorem BG_fx {wr : List Nat} {h h1 : Hp} {m : Nat} {n : Int} (O : Okh h) (F : Fx wr h h1) (t : Tg h m = 12) (hw : ([2470, 2477, 170101 * 200] : List Nat).all (fun e => !wr.elem e) = true) (p : BG h m n) : BG h1 m n := by
  unfold BG
  rw [mIv (j := 77) F t (w_of hw rfl), mAI (j := 70) O F t rE_12_70 ar_170101 (w_of hw rfl) (w_of hw rfl)]
  exact p
theorem BG_get {h : Hp} {m a : Nat} {n x v b : Int} (p : BG h m n) (h0 : 0 ≤ x ∧ x < n) (r : Rv h m 70 = a) (ev : Iv h a x.toNat = v) (hv : ¬ v = 0) (eb : Iv h m 77 = b) : 0 ≤ b := by
  refine Classical.byContradiction fun z => ?_
  have q := p (by omega) x.toNat (by omega)
  rw [r, ev] at q
  exact hv q
theorem BG_step {h h1 : Hp} {m : Nat} {x b v : Int} (h0 : 0 ≤ x) (p : BG h m x) (eb : Iv h m 77 = Iv h1 m 77) (ig : IG h h1 m x) (ev : Iv h1 (Rv h1 m 70) x.toNat = v) (hv : v = 0) : BG h1 m (x + 1) := fun z j hj => by
  by_cases c : (j : Int) = x
  · rw [show j = x.toNat by omega, ev, hv]
  · rw [ig j c]
    exact p (by rw [eb]; exact z) j (by omega)
def LZ (h : Hp) (a : Nat) : Prop := ∀ k, Iv h a k = 0
theorem LZ_new {h h1 : Hp} {n t k : Nat} (hh : nw h n t k = h1) : LZ h1 n := fun _ => pN_I hh
theorem LZ_fx {wr : List Nat} {h h1 : Hp} {a : Nat} (F : Fx wr h h1) (t : Tg h a = 127100) (hw : wr.elem (127100 * 200) = false) (p : LZ h a) : LZ h1 a := fun k => (fxIa (T := 127099) F t ar_127100 hw).trans (p k)
