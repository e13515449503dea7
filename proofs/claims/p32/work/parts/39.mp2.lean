/-! MP2: the reader of the reference -/
def fz (s : Nat → Int) : Nat → Nat → Nat
  | 0, i => i
  | f + 1, i => if s i = 0 then i else fz s f (i + 1)
theorem fz_le {s : Nat → Int} : ∀ {f i n : Nat}, i ≤ n → n < i + f → s n = 0 → fz s f i ≤ n ∧ i ≤ fz s f i ∧ s (fz s f i) = 0 := by
  intro f
  induction f with
  | zero => intro i n h1 h2 _; omega
  | succ f ih =>
    intro i n h1 h2 h3
    unfold fz
    split
    · rename_i q; exact ⟨h1, Nat.le_refl i, q⟩
    · rename_i q
      have hne : i ≠ n := fun e => q (by rw [e]; exact h3)
      obtain ⟨a, b, c⟩ := ih (i := i + 1) (n := n) (by omega) (by omega) h3
      exact ⟨a, by omega, c⟩
theorem fz_first {s : Nat → Int} : ∀ {f i k : Nat}, i ≤ k → k < fz s f i → ¬ s k = 0 := by
  intro f
  induction f with
  | zero => intro i k h1 h2; unfold fz at h2; omega
  | succ f ih =>
    intro i k h1 h2
    unfold fz at h2
    split at h2
    · omega
    · rename_i q
      by_cases e : i = k
      · subst e; exact q
      · exact ih (i := i + 1) (by omega) h2
def NT (h : Hp) (m : Nat) : Int := ((fz (Iv h (Rv h m 4)) 1501 0 : Nat) : Int)
def TK (h : Hp) (m : Nat) : Prop := NT h m ≤ 1500 ∧ Iv h (Rv h m 4) (NT h m).toNat = 0 ∧ ∀ k : Nat, (k : Int) ≤ NT h m → Iv h (Rv h m 4) k = 2 → 0 ≤ Jv h (Rv h m 6) k ∧ Jv h (Rv h m 6) k ≤ 9999
theorem NT_fx {wr : List Nat} {h h1 : Hp} {m : Nat} (O : Okh h) (F : Fx wr h h1) (t : Tg h m = 12) (hw : ([2404, 104100 * 200] : List Nat).all (fun e => !wr.elem e) = true) : NT h1 m = NT h m := by
  unfold NT
  rw [mAI (j := 4) O F t rE_12_4 ar_104100 (w_of hw rfl) (w_of hw rfl)]
theorem TK_fx {wr : List Nat} {h h1 : Hp} {m : Nat} (O : Okh h) (F : Fx wr h h1) (t : Tg h m = 12) (hw : ([2404, 2406, 104100 * 200, 106102 * 200] : List Nat).all (fun e => !wr.elem e) = true) (p : TK h m) : TK h1 m := by
  unfold TK
  rw [NT_fx O F t (all_sub hw (by decide)), mAI (j := 4) O F t rE_12_4 ar_104100 (w_of hw rfl) (w_of hw rfl), mAJ (j := 6) O F t rE_12_6 ar_106102 (w_of hw rfl) (w_of hw rfl)]
  exact p
theorem NT_rng {h : Hp} {m : Nat} {n : Int} (p : TK h m) (e : NT h m = n) : 0 ≤ n ∧ n ≤ 1500 := by
  subst e
  exact ⟨Int.natCast_nonneg _, p.1⟩
theorem NT_lt {h : Hp} {m : Nat} {n a : Int} (p : TK h m) (e : NT h m = n) (h0 : 0 ≤ a) (h1 : a ≤ n) (hs : ¬ Iv h (Rv h m 4) a.toNat = 0) : a < n := by
  have q : a ≠ n := fun z => hs (by rw [z, ← e]; exact p.2.1)
  omega
theorem TK_num {h : Hp} {m : Nat} {n a : Int} (p : TK h m) (e : NT h m = n) (h0 : 0 ≤ a) (h1 : a ≤ n) {s v : Int} (es : Iv h (Rv h m 4) a.toNat = s) (ev : Jv h (Rv h m 6) a.toNat = v) : s = 2 → 0 ≤ v ∧ v ≤ 9999 := fun z => by
  have q := p.2.2 a.toNat (by rw [e]; omega) (by rw [es]; exact z)
  rw [ev] at q
  exact q
theorem TK_made {h : Hp} {m : Nat} {n : Int} (h0 : 0 ≤ n ∧ n ≤ 1500) (hs : Iv h (Rv h m 4) n.toNat = 0) (hv : ∀ k : Nat, (k : Int) < n → Iv h (Rv h m 4) k = 2 → 0 ≤ Jv h (Rv h m 6) k ∧ Jv h (Rv h m 6) k ≤ 9999) : TK h m := by
  obtain ⟨a, b, c⟩ := fz_le (s := Iv h (Rv h m 4)) (f := 1501) (i := 0) (n := n.toNat) (by omega) (by omega) hs
  unfold TK NT
  refine ⟨by omega, by rw [Int.toNat_natCast]; exact c, fun k hk q => ?_⟩
  by_cases e : (k : Int) < n
  · exact hv k e q
  · have ek : k = n.toNat := by omega
    rw [ek, hs] at q
    exact absurd q (by decide)
def RD (h : Hp) (m : Nat) : Prop := TK h m ∧ Iv h m 7 ≤ NT h m + 1 ∧ (Iv h m 8 = 0 → Iv h m 7 ≤ NT h m) ∧ Iv h m 28 ≤ Iv h m 7
def ST (h h1 : Hp) (m : Nat) : Prop := Iv h m 7 ≤ Iv h1 m 7 ∧ Iv h1 m 28 + Iv h m 7 ≤ Iv h m 28 + Iv h1 m 7 ∧ (Iv h1 m 8 = 0 → Iv h m 8 = 0)
theorem ST_rf {h : Hp} {m : Nat} : ST h h m := ⟨Int.le_refl _, by omega, id⟩
def tkf (k f s v c : Int) : Int := if f = 0 ∧ s = k ∧ v = c then 1 else 0
/-! codes that were written -/
def CF (h h1 : Hp) (m : Nat) : Prop := Iv h m 28 ≤ Iv h1 m 28 ∧ ∀ k : Nat, (k : Int) < 12800 + Iv h m 28 → Iv h1 (Rv h1 m 29) k = Iv h (Rv h m 29) k ∧ Iv h1 (Rv h1 m 30) k = Iv h (Rv h m 30) k
theorem CF.rf {h : Hp} {m : Nat} : CF h h m := ⟨Int.le_refl _, fun _ _ => ⟨rfl, rfl⟩⟩
theorem CF.trans {h h1 h2 : Hp} {m : Nat} (a : CF h h1 m) (b : CF h1 h2 m) : CF h h2 m := ⟨Int.le_trans a.1 b.1, fun k hk => by
  have q := a.2 k hk
  have z := b.2 k (by have := a.1; omega)
  exact ⟨z.1.trans q.1, z.2.trans q.2⟩⟩
def cfD : List Nat := [2428, 2429, 2430, 129100 * 200, 130100 * 200]
theorem CF_fx {wr : List Nat} {h h1 : Hp} {m : Nat} (O : Okh h) (F : Fx wr h h1) (t : Tg h m = 12) (hw : cfD.all (fun e => !wr.elem e) = true) : CF h h1 m := by
  refine ⟨?_, fun k _ => ?_⟩
  · rw [mIv (j := 28) F t (w_of hw rfl)]; exact Int.le_refl _
  · rw [mAI (j := 29) O F t rE_12_29 ar_129100 (w_of hw rfl) (w_of hw rfl), mAI (j := 30) O F t rE_12_30 ar_130100 (w_of hw rfl) (w_of hw rfl)]
    exact ⟨rfl, rfl⟩
def EM (h h1 : Hp) (m : Nat) (c a : Int) : Prop := Iv h1 m 28 = Iv h m 28 + 1 ∧ ∀ k : Nat, Iv h1 (Rv h1 m 29) k = (if (k : Int) = 12800 + Iv h m 28 then c else Iv h (Rv h m 29) k) ∧ Iv h1 (Rv h1 m 30) k = (if (k : Int) = 12800 + Iv h m 28 then a else Iv h (Rv h m 30) k)
theorem EM.cf {h h1 : Hp} {m : Nat} {c a : Int} (p : EM h h1 m c a) : CF h h1 m := ⟨by have := p.1; omega, fun k hk => by
  have q := p.2 k
  rw [if_neg (by omega), if_neg (by omega)] at q
  exact q⟩
theorem EM_made {h h1 h2 h3 : Hp} {m a29 a30 : Nat} {n c a : Int} (t : Tg h m = 12) (O : Okh h) (e29 : Rv h m 29 = a29) (e30 : Rv h m 30 = a30) (en : Iv h m 28 = n) (h0 : 0 ≤ n) (k1 : sI h a29 (12800 + n).toNat c = h1) (k2 : sI h1 a30 (12800 + n).toNat a = h2) (k3 : sI h2 m 28 (n + 1) = h3) : EM h h3 m c a := by
  have t29 : Tg h a29 = 129100 := e29 ▸ ok_R O t rE_12_29 rfl
  have t30 : Tg h a30 = 130100 := e30 ▸ ok_R O t rE_12_30 rfl
  have n1 : a29 ≠ m := ne_tag t29 t (by decide)
  have n2 : a30 ≠ m := ne_tag t30 t (by decide)
  have n3 : a29 ≠ a30 := ne_tag t29 t30 (by decide)
  refine ⟨by rw [pI_e k3, en], fun k => ?_⟩
  rw [pIR k3, pIR k2, pIR k1, pIR k3, pIR k2, pIR k1, e29, e30, en, pI_n k3 n1, pI_n k2 n3, pI_n k3 n2]
  refine ⟨?_, ?_⟩
  · split
    · rename_i z; rw [show k = (12800 + n).toNat by omega, pI_e k1]
    · rename_i z; exact pI_j k1 (by omega)
  · split
    · rename_i z; rw [show k = (12800 + n).toNat by omega, pI_e k2]
    · rename_i z; rw [pI_j k2 (by omega)]; exact pI_n k1 (Ne.symm n3)
def PU (h : Hp) (m : Nat) (c : Int) : Prop := ∃ n : Nat, 0 ≤ c ∧ c + n = Iv h m 28 ∧ ∀ d, stk (Iv h (Rv h m 29)) (Iv h (Rv h m 30)) n (12800 + c).toNat d (d + 1)
def PUf (h : Hp) (m : Nat) (c : Int) : Prop := Iv h m 8 = 0 → PU h m c
theorem PU_fx {wr : List Nat} {h h1 : Hp} {m : Nat} {c : Int} (O : Okh h) (F : Fx wr h h1) (t : Tg h m = 12) (hw : cfD.all (fun e => !wr.elem e) = true) (p : PU h m c) : PU h1 m c := by
  unfold PU
  rw [mIv (j := 28) F t (w_of hw rfl), mAI (j := 29) O F t rE_12_29 ar_129100 (w_of hw rfl) (w_of hw rfl), mAI (j := 30) O F t rE_12_30 ar_130100 (w_of hw rfl) (w_of hw rfl)]
  exact p
theorem PUf_mono {wr : List Nat} {h h1 : Hp} {m : Nat} {c : Int} (O : Okh h) (F : Fx wr h h1) (t : Tg h m = 12) (hw : cfD.all (fun e => !wr.elem e) = true) (hm : Iv h1 m 8 = 0 → Iv h m 8 = 0) (p : PUf h m c) : PUf h1 m c := fun z => PU_fx O F t hw (p (hm z))
theorem PUf_fx {wr : List Nat} {h h1 : Hp} {m : Nat} {c : Int} (O : Okh h) (F : Fx wr h h1) (t : Tg h m = 12) (hw : (2408 :: cfD).all (fun e => !wr.elem e) = true) (p : PUf h m c) : PUf h1 m c := PUf_mono O F t (all_sub hw (by decide)) (fun z => by rw [mIv (j := 8) F t (w_of hw rfl)] at z; exact z) p
theorem PU_one {h h1 : Hp} {m : Nat} {c a c0 : Int} (em : EM h h1 m c a) (e : Iv h m 28 = c0) (h0 : 0 ≤ c0) (hc : c = 1 ∨ (c = 2 ∧ 0 ≤ a ∧ a ≤ 11)) : PU h1 m c0 := by
  refine ⟨1, h0, by rw [em.1, e]; rfl, fun d => ?_⟩
  have q := em.2 (12800 + c0).toNat
  rw [e, if_pos (by omega), if_pos (by omega)] at q
  unfold stk
  rw [q.1, q.2]
  refine ⟨⟨by omega, fun z => by omega, fun z => by omega, fun z1 z2 _ => by omega⟩, ?_⟩
  show nxd c d = d + 1
  unfold nxd
  rw [if_pos (by omega)]
theorem stk_em {h h1 : Hp} {m : Nat} {c a c0 : Int} {n d e : Nat} (cf : CF h h1 m) (h0 : 0 ≤ c0) (hn : c0 + n = Iv h m 28) (p : stk (Iv h (Rv h m 29)) (Iv h (Rv h m 30)) n (12800 + c0).toNat d e) : stk (Iv h1 (Rv h1 m 29)) (Iv h1 (Rv h1 m 30)) n (12800 + c0).toNat d e := stk_congr (fun k k1 k2 => cf.2 k (by omega)) p
theorem PU_neg {h h1 : Hp} {m : Nat} {a c0 : Int} (p : PU h m c0) (em : EM h h1 m 3 a) : PU h1 m c0 := by
  obtain ⟨n, h0, hn, hs⟩ := p
  refine ⟨n + 1, h0, by rw [em.1, ← hn]; omega, fun d => stk_app (stk_em (c := 0) (a := 0) em.cf h0 hn (hs d)) ?_⟩
  have q := em.2 ((12800 + c0).toNat + n)
  rw [if_pos (by omega), if_pos (by omega)] at q
  unfold stk
  rw [q.1]
  exact ⟨⟨by decide, fun z => absurd z (by decide), fun _ => by omega, fun _ _ z => absurd rfl z⟩, rfl⟩
theorem PU_bin {h h1 h2 : Hp} {m : Nat} {c a c0 c1 : Int} (p : PU h m c0) (cf : CF h h1 m) (e : Iv h m 28 = c1) (p1 : PU h1 m c1) (em : EM h1 h2 m c a) (hc : 4 ≤ c ∧ c ≤ 9) : PU h2 m c0 := by
  obtain ⟨n, h0, hn, hs⟩ := p
  obtain ⟨n1, h01, hn1, hs1⟩ := p1
  refine ⟨n + (n1 + 1), h0, by rw [em.1, ← hn1]; omega, fun d => ?_⟩
  have z1 := stk_em (c := 0) (a := 0) (cf.trans em.cf) h0 hn (hs d)
  have z2 := stk_em (c := 0) (a := 0) em.cf h01 hn1 (hs1 (d + 1))
  refine stk_app z1 ?_
  rw [show (12800 + c0).toNat + n = (12800 + c1).toNat by omega]
  refine stk_app z2 ?_
  have q := em.2 ((12800 + c1).toNat + n1)
  rw [if_pos (by omega), if_pos (by omega)] at q
  unfold stk
  rw [q.1]
  refine ⟨⟨by omega, fun z => by omega, fun z => by omega, fun _ _ _ => by omega⟩, ?_⟩
  show nxd c (d + 1 + 1) = d + 1
  unfold nxd
  rw [if_neg (by omega), if_neg (by omega)]
  rfl
theorem PUf_neg {h h1 : Hp} {m : Nat} {a c0 c1 : Int} (p : PUf h m c1) (em : EM h h1 m 3 a) (e8 : Iv h1 m 8 = Iv h m 8) (ec : c1 = c0) : PUf h1 m c0 := fun z => PU_neg (ec ▸ p (e8 ▸ z)) em
theorem PUf_bin {h h1 h2 : Hp} {m : Nat} {c a c0 : Int} (p : PUf h m c0) (cf : CF h h1 m) (hm : Iv h1 m 8 = 0 → Iv h m 8 = 0) (p1 : PUf h1 m (Iv h m 28)) (em : EM h1 h2 m c a) (e8 : Iv h2 m 8 = Iv h1 m 8) (hc : 4 ≤ c ∧ c ≤ 9) : PUf h2 m c0 := fun z => PU_bin (p (hm (e8 ▸ z))) cf rfl (p1 (e8 ▸ z)) em hc
/-! lines that are being read -/
def DLk (h : Hp) (m k : Nat) : Prop := ∃ n : Nat, 12800 ≤ Iv h (Rv h m 27) (192 + k) ∧ Iv h (Rv h m 27) (192 + k) + n < 12800 + Iv h m 28 ∧ stk (Iv h (Rv h m 29)) (Iv h (Rv h m 30)) n (Iv h (Rv h m 27) (192 + k)).toNat 0 1 ∧ Iv h (Rv h m 29) ((Iv h (Rv h m 27) (192 + k)).toNat + n) = 0 ∧ (Iv h (Rv h m 25) (192 + k) = 1 → Iv h (Rv h m 26) (192 + k) ≤ 9)
def DLn (h : Hp) (m : Nat) (n : Int) : Prop := ∀ k : Nat, (k : Int) < n → DLk h m k
def DLf (h : Hp) (m : Nat) : Prop := Iv h m 8 = 0 → DLn h m (Iv h (Rv h m 24) 8)
theorem DLk_cf {h h1 : Hp} {m k : Nat} (cf : CF h h1 m) (e25 : Iv h1 (Rv h1 m 25) (192 + k) = Iv h (Rv h m 25) (192 + k)) (e26 : Iv h1 (Rv h1 m 26) (192 + k) = Iv h (Rv h m 26) (192 + k)) (e27 : Iv h1 (Rv h1 m 27) (192 + k) = Iv h (Rv h m 27) (192 + k)) (p : DLk h m k) : DLk h1 m k := by
  obtain ⟨n, h1, h2, h3, h4, h5⟩ := p
  unfold DLk
  rw [e25, e26, e27]
  refine ⟨n, h1, by have := cf.1; omega, stk_congr (fun j j1 j2 => cf.2 j (by omega)) h3, ?_, h5⟩
  rw [(cf.2 _ (by omega)).1]
  exact h4
theorem DLn_cf {wr : List Nat} {h h1 : Hp} {m : Nat} {n : Int} (O : Okh h) (F : Fx wr h h1) (t : Tg h m = 12) (hw : ([2425, 2426, 2427, 125100 * 200, 126100 * 200, 127100 * 200] : List Nat).all (fun e => !wr.elem e) = true) (cf : CF h h1 m) (p : DLn h m n) : DLn h1 m n := fun k hk => DLk_cf cf (congrFun (mAI (j := 25) O F t rE_12_25 ar_125100 (w_of hw rfl) (w_of hw rfl)) _) (congrFun (mAI (j := 26) O F t rE_12_26 ar_126100 (w_of hw rfl) (w_of hw rfl)) _) (congrFun (mAI (j := 27) O F t rE_12_27 ar_127100 (w_of hw rfl) (w_of hw rfl)) _) (p k hk)
theorem DLn_fx {wr : List Nat} {h h1 : Hp} {m : Nat} {n : Int} (O : Okh h) (F : Fx wr h h1) (t : Tg h m = 12) (hw : (2425 :: 2426 :: 2427 :: 125100 * 200 :: 126100 * 200 :: 127100 * 200 :: cfD).all (fun e => !wr.elem e) = true) (p : DLn h m n) : DLn h1 m n := DLn_cf O F t (all_sub hw (by decide)) (CF_fx O F t (all_sub hw (by decide))) p
theorem DLf_mono {wr : List Nat} {h h1 : Hp} {m : Nat} (O : Okh h) (F : Fx wr h h1) (t : Tg h m = 12) (hw : (2424 :: 124100 * 200 :: 2425 :: 2426 :: 2427 :: 125100 * 200 :: 126100 * 200 :: 127100 * 200 :: cfD).all (fun e => !wr.elem e) = true) (hm : Iv h1 m 8 = 0 → Iv h m 8 = 0) (p : DLf h m) : DLf h1 m := fun z => by
  rw [mAI (j := 24) O F t rE_12_24 ar_124100 (w_of hw rfl) (w_of hw rfl)]
  exact DLn_fx O F t (all_sub hw (by decide)) (p (hm z))
theorem DLf_fx {wr : List Nat} {h h1 : Hp} {m : Nat} (O : Okh h) (F : Fx wr h h1) (t : Tg h m = 12) (hw : (2408 :: 2424 :: 124100 * 200 :: 2425 :: 2426 :: 2427 :: 125100 * 200 :: 126100 * 200 :: 127100 * 200 :: cfD).all (fun e => !wr.elem e) = true) (p : DLf h m) : DLf h1 m := DLf_mono O F t (all_sub hw (by decide)) (fun z => by rw [mIv (j := 8) F t (w_of hw rfl)] at z; exact z) p
/-- a write into one of the arrays of lines, behind what counts -/
theorem wA {h h1 : Hp} {m j a i : Nat} {v : Int} (t : Tg h m = 12) (ta : Tg h a = 100000 + 1000 * j + 100) (hh : sI h a i v = h1) (g : Nat) (k : Nat) (hk : k ≠ i) : Iv h1 (Rv h1 m g) k = Iv h (Rv h m g) k := by
  rw [pIR hh, pI_j hh hk]
theorem CF_w {h h1 : Hp} {m a i E : Nat} {v : Int} (O : Okh h) (t : Tg h m = 12) (ta : Tg h a = E) (hE : E ≠ 12 ∧ E ≠ 129100 ∧ E ≠ 130100) (hh : sI h a i v = h1) : CF h h1 m := by
  have n1 : m ≠ a := ne_tag t ta (fun e => hE.1 e.symm)
  have n2 : Rv h m 29 ≠ a := ne_tag (ok_R O t rE_12_29 rfl) ta (fun e => hE.2.1 e.symm)
  have n3 : Rv h m 30 ≠ a := ne_tag (ok_R O t rE_12_30 rfl) ta (fun e => hE.2.2 e.symm)
  refine ⟨by rw [pI_n hh n1]; exact Int.le_refl _, fun k _ => ?_⟩
  rw [pIR hh, pIR hh, pI_n hh n2, pI_n hh n3]
  exact ⟨rfl, rfl⟩
theorem DLn_w {h h1 : Hp} {m a i E : Nat} {n v : Int} (O : Okh h) (t : Tg h m = 12) (ta : Tg h a = E) (hE : E ≠ 12 ∧ E ≠ 129100 ∧ E ≠ 130100) (hh : sI h a i v = h1) (hi : 192 + n ≤ (i : Int)) (p : DLn h m n) : DLn h1 m n := fun k hk => by
  have e : ∀ g, Iv h1 (Rv h1 m g) (192 + k) = Iv h (Rv h m g) (192 + k) := fun g => by rw [pIR hh, pI_j hh (by omega)]
  exact DLk_cf (CF_w O t ta hE hh) (e 25) (e 26) (e 27) (p k hk)
theorem DL_new {h h1 : Hp} {m : Nat} {v c x y : Int} (pu : PU h m c) (em : EM h h1 m 0 0) (h0 : 0 ≤ v) (e27 : Iv h1 (Rv h1 m 27) (192 + v).toNat = 12800 + c) (e25 : Iv h1 (Rv h1 m 25) (192 + v).toNat = x) (e26 : Iv h1 (Rv h1 m 26) (192 + v).toNat = y) (hk : x = 1 → y ≤ 9) (p : DLn h1 m v) : DLn h1 m (v + 1) := fun k hk2 => by
  by_cases e : (k : Int) < v
  · exact p k e
  · have ek : 192 + k = (192 + v).toNat := by omega
    obtain ⟨n, g0, gn, gs⟩ := pu
    unfold DLk
    rw [ek, e27, e25, e26]
    refine ⟨n, by omega, by rw [em.1]; omega, stk_em (c := 0) (a := 0) em.cf g0 gn (gs 0), ?_, hk⟩
    have q := em.2 ((12800 + c).toNat + n)
    rw [if_pos (by omega)] at q
    exact q.1
/-! the books of rules over what is written there -/
theorem LOb_congr {op one op2 one2 : Nat → Int} {a : Int} {b : Nat} (hc : ∀ k : Nat, 1600 * b ≤ k → k < 1600 * b + 1600 → op2 k = op k ∧ one2 k = one k) (p : LOb op one a b) : LOb op2 one2 a b := by
  obtain ⟨n, h1, h2, h3, h4⟩ := p
  exact ⟨n, h1, h2, stk_congr (fun k k1 k2 => hc k (by omega) (by omega)) h3, by rw [(hc _ (by omega) (by omega)).1]; exact h4⟩
theorem BKb_cong {h h1 : Hp} {m b : Nat} (hb : b ≤ 7) (e24 : Iv h1 (Rv h1 m 24) b = Iv h (Rv h m 24) b) (hl : Iv h (Rv h m 24) b ≤ 24) (e : ∀ k : Nat, 24 * b ≤ k → k < 24 * b + 24 → Iv h1 (Rv h1 m 25) k = Iv h (Rv h m 25) k ∧ Iv h1 (Rv h1 m 26) k = Iv h (Rv h m 26) k ∧ Iv h1 (Rv h1 m 27) k = Iv h (Rv h m 27) k) (hc : ∀ k : Nat, 1600 * b ≤ k → k < 1600 * b + 1600 → Iv h1 (Rv h1 m 29) k = Iv h (Rv h m 29) k ∧ Iv h1 (Rv h1 m 30) k = Iv h (Rv h m 30) k) (p : BKb h m b) : BKb h1 m b := fun k hk => by
  rw [e24] at hk
  obtain ⟨z1, z2, z3⟩ := e (24 * b + k) (by omega) (by omega)
  rw [z1, z2, z3]
  have q := p k hk
  exact ⟨LOb_congr hc q.1, q.2⟩
theorem ln24 {h : Hp} {m b : Nat} (O : Okh h) (t : Tg h m = 12) : Iv h (Rv h m 24) b ≤ 24 := (ok_Ia O (ok_R O t rE_12_24 rfl) ar_124100 rI_124100_0 (j := b) rfl).2
theorem bk8 {h : Hp} {m : Nat} (O : Okh h) (t : Tg h m = 12) : Iv h m 10 ≤ 8 := (ok_I O t rI_12_10 rfl).2
theorem cd0 {h : Hp} {m : Nat} (O : Okh h) (t : Tg h m = 12) : 0 ≤ Iv h m 28 := (ok_I O t rI_12_28 rfl).1
theorem MInv_w {h h1 : Hp} {m a i E : Nat} {v : Int} (O : Okh h) (t : Tg h m = 12) (ta : Tg h a = E) (hE : E ≠ 12 ∧ E ≠ 129100 ∧ E ≠ 130100) (hh : sI h a i v = h1) (hi : (E = 124100 → 8 ≤ i) ∧ (E = 125100 ∨ E = 126100 ∨ E = 127100 → 192 ≤ i) ∧ (E = 127100 → 0 ≤ v)) (p : MInv h m) : MInv h1 m := by
  have n1 : m ≠ a := ne_tag t ta (fun e => hE.1 e.symm)
  have cf := CF_w O t ta hE hh
  have key : ∀ {g G L : Nat}, rE 12 g = (G + 1, L, true) → ∀ k, (E = G + 1 → k ≠ i) → Iv h1 (Rv h1 m g) k = Iv h (Rv h m g) k := fun {g G L} r k hk => by
    rw [pIR hh]
    by_cases e : Rv h m g = a
    · have eE : E = G + 1 := by rw [← ta, ← e]; exact ok_R O t r rfl
      rw [pI_j hh (hk eE)]
    · rw [pI_n hh e]
  refine ⟨fun b hb => ?_, fun k hk => ?_⟩
  · rw [pI_n hh n1] at hb
    have b8 := bk8 O t
    refine BKb_cong (by omega) (key rE_12_24 b (fun e => by have := hi.1 e; omega)) (ln24 O t) (fun k k1 k2 => ⟨key rE_12_25 k (fun e => by have := hi.2.1 (Or.inl e); omega), key rE_12_26 k (fun e => by have := hi.2.1 (Or.inr (Or.inl e)); omega), key rE_12_27 k (fun e => by have := hi.2.1 (Or.inr (Or.inr e)); omega)⟩) (fun k hk1 hk2 => cf.2 k (by have := cd0 O t; omega)) (p.1 b hb)
  · rw [pIR hh]
    by_cases e : Rv h m 27 = a ∧ k = i
    · rw [e.1, e.2, pI_e hh]
      exact hi.2.2 (by rw [← ta, ← e.1]; exact ok_R O t rE_12_27 rfl)
    · by_cases e1 : Rv h m 27 = a
      · rw [pI_j hh (fun z => e ⟨e1, z⟩)]; exact p.2 k hk
      · rw [pI_n hh e1]; exact p.2 k hk
theorem MInv_cf {wr : List Nat} {h h1 : Hp} {m : Nat} (O : Okh h) (F : Fx wr h h1) (t : Tg h m = 12) (hw : ([2410, 2424, 2425, 2426, 2427, 124100 * 200, 125100 * 200, 126100 * 200, 127100 * 200] : List Nat).all (fun e => !wr.elem e) = true) (cf : CF h h1 m) (p : MInv h m) : MInv h1 m := by
  refine ⟨fun b hb => ?_, LA_fx O F t (all_sub hw (by decide)) p.2⟩
  rw [mIv (j := 10) F t (w_of hw rfl)] at hb
  have b8 := bk8 O t
  exact BKb_cong (by omega) (congrFun (mAI (j := 24) O F t rE_12_24 ar_124100 (w_of hw rfl) (w_of hw rfl)) b) (ln24 O t) (fun k _ _ => ⟨congrFun (mAI (j := 25) O F t rE_12_25 ar_125100 (w_of hw rfl) (w_of hw rfl)) k, congrFun (mAI (j := 26) O F t rE_12_26 ar_126100 (w_of hw rfl) (w_of hw rfl)) k, congrFun (mAI (j := 27) O F t rE_12_27 ar_127100 (w_of hw rfl) (w_of hw rfl)) k⟩) (fun k hk1 hk2 => cf.2 k (by have := cd0 O t; omega)) (p.1 b hb)
