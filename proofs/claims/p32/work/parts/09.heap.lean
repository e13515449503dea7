/-! HEAP: an abstract heap of whole numbers (a reference is its address and one, null is 0), and the machine's heap that holds it -/
abbrev Hp : Type := (Nat → Nat) × (Nat → Nat) × (Nat → Nat → Int) × (Nat → Nat → Int) × (Nat → Nat → Nat)
def Tg (h : Hp) : Nat → Nat := h.1
def Ln (h : Hp) : Nat → Nat := h.2.1
def Iv (h : Hp) : Nat → Nat → Int := h.2.2.1
def Jv (h : Hp) : Nat → Nat → Int := h.2.2.2.1
def Rv (h : Hp) : Nat → Nat → Nat := h.2.2.2.2
def up2 {α : Type} (f : Nat → Nat → α) (n j : Nat) (v : α) : Nat → Nat → α := fun n' j' => if n' = n ∧ j' = j then v else f n' j'
def sI (h : Hp) (n j : Nat) (v : Int) : Hp := (h.1, h.2.1, up2 h.2.2.1 n j v, h.2.2.2.1, h.2.2.2.2)
def sJ (h : Hp) (n j : Nat) (v : Int) : Hp := (h.1, h.2.1, h.2.2.1, up2 h.2.2.2.1 n j v, h.2.2.2.2)
def sR (h : Hp) (n j : Nat) (v : Nat) : Hp := (h.1, h.2.1, h.2.2.1, h.2.2.2.1, up2 h.2.2.2.2 n j v)
def nw (h : Hp) (n t k : Nat) : Hp := (va_up h.1 n t, va_up h.2.1 n k, va_up h.2.2.1 n (fun _ => 0), va_up h.2.2.2.1 n (fun _ => 0), va_up h.2.2.2.2 n (fun _ => 0))
abbrev LV : Type := Int ⊕ (Int ⊕ Nat)
def i32 (x : Int) : Int32 := Int32.ofInt x
def i64 (x : Int) : Int64 := Int64.ofInt x
abbrev inR (x : Int) : Prop := -2147483648 ≤ x ∧ x ≤ 2147483647
abbrev inL (x : Int) : Prop := -9223372036854775808 ≤ x ∧ x ≤ 9223372036854775807
def opt (n : Nat) : Option Nat := match n with
  | 0 => none
  | a + 1 => some a
def rv (n : Nat) : Value := va_rf (opt n)
def toV (x : LV) : Value := match x with
  | .inl x => .int (i32 x)
  | .inr (.inl x) => .long (i64 x)
  | .inr (.inr n) => rv n
def isL (x : LV) : Bool := match x with
  | .inr (.inl _) => true
  | _ => false
def okV (x : LV) : Prop := match x with
  | .inl x => inR x
  | .inr (.inl x) => inL x
  | .inr (.inr _) => True
theorem i32_toInt {x : Int} (h : inR x) : (i32 x).toInt = x := Int32.toInt_ofInt_of_le (by omega) (by omega)
theorem i64_toInt {x : Int} (h : inL x) : (i64 x).toInt = x := Int64.toInt_ofInt_of_le (by omega) (by omega)
theorem i32_of (v : Int32) : i32 v.toInt = v := Int32.ofInt_toInt v
theorem i64_of (v : Int64) : i64 v.toInt = v := Int64.ofInt_toInt v
theorem inR_of (v : Int32) : inR v.toInt := by have := z_rng v; omega
theorem inL_of (v : Int64) : inL v.toInt := by
  have h1 := Int64.le_toInt v
  have h2 := Int64.toInt_lt v
  omega
theorem i32_nI {x : Int} (h : 0 ≤ x) : i32 x = nI x.toNat := by
  unfold i32 nI
  conv => lhs; rw [← Int.toNat_of_nonneg h]
  rfl
theorem rv_cat (n : Nat) : (rv n).category = 1 := by cases n <;> rfl
theorem toV_cat (x : LV) : (toV x).category = if isL x then 2 else 1 := by
  rcases x with x | x | n
  · rfl
  · rfl
  · exact rv_cat n
def ftT : List (List Nat) := [[0, 1, 0, 0, 0, 0], [0, 1, 1, 0, 2, 1, 1, 4, 4], [4, 4, 4, 4, 4, 0, 4, 4, 0], [4, 0, 0, 0, 0, 2, 4, 0, 0, 1, 1, 4, 0, 4], [4, 4, 0, 4], [0, 4, 4, 4, 4, 4, 0, 0, 0, 0, 0, 4, 4, 0, 4, 4, 4, 4, 4], [4, 4, 4, 0, 0, 0, 4, 4, 4, 4, 4, 4, 1], [4], [0, 0, 0, 0, 0, 0, 0, 0, 0, 0, 0, 0, 1, 0, 0, 0, 1, 0, 0], [4, 4, 4, 1], [0, 0, 4, 4, 0, 4, 4, 4, 4, 0, 0, 4, 0, 4, 4, 1, 1, 4, 4], [0, 4, 0, 0, 4, 4, 4, 0, 0, 4, 0, 4, 4, 4, 4, 4, 4, 4, 4, 4, 4, 4, 4, 4, 4, 4, 4, 4, 0, 4, 4, 4, 4, 0, 0, 1, 4, 4, 4, 4, 0, 4, 4, 4, 4, 4, 4, 4, 4, 4, 4, 4, 4, 4, 4, 4, 4, 0, 4, 4, 4, 4, 0, 4, 4, 4, 4, 4, 4, 2, 4, 4, 4, 4, 4, 4, 4, 0, 0, 0, 0, 4, 4, 0, 4, 4, 4]]
def nf (c : Nat) : Nat := ((ftT[c]?).getD []).length
def ft (c j : Nat) : Nat := (((ftT[c]?).getD [])[j]?).getD 0
def fvR (c : Nat) (fi : Nat → Int) (fj : Nat → Int) (fr : Nat → Nat) (j : Nat) : LV := match ft c j with
  | 2 => .inr (.inl (fj j))
  | 4 => .inr (.inr (fr j))
  | _ => .inl (fi j)
def fsR (c : Nat) (fi : Nat → Int) (fj : Nat → Int) (fr : Nat → Nat) : List Value := (List.range (nf c)).map (fun j => toV (fvR c fi fj fr j))
def arR (t k : Nat) (fi : Nat → Int) (fj : Nat → Int) (fr : Nat → Nat) : vp_A := (k, if t = 2 then .inr (.inl (fun i => i64 (fj i))) else if t < 4 then .inl (fun i => i32 (fi i)) else .inr (.inr (.inr (.inr (fun i => opt (fr i))))))
def ceR (cy : Nat → ClassId) (t k : Nat) (fi : Nat → Int) (fj : Nat → Int) (fr : Nat → Nat) : va_E := if t < 100 then .inr (t - 1, fsR (t - 1) fi fj fr) else .inl (cy (t - 100), arR (t - 100) k fi fj fr)
def ceO (cy : Nat → ClassId) (h : Hp) (a : Nat) : va_E := ceR cy (Tg h (a + 1) % 1000) (Ln h (a + 1)) (Iv h (a + 1)) (Jv h (a + 1)) (Rv h (a + 1))
def Aof (z0 : Nat) : Nat → Prop := fun q => z0 ≤ q
def Hold (D : va_G) (cy : Nat → ClassId) (z0 : Nat) (h : Hp) (H : Heap) : Prop := (∃ L : List Nat, (∀ a, a ∈ L ↔ Tg h (a + 1) ≠ 0) ∧ va_P D vwCl (va_pl L (ceO cy h)) H ∧ va_D (Aof z0) (va_pl L (ceO cy h))) ∧ Tg h 0 = 0 ∧ (∀ n j, inR (Iv h n j)) ∧ (∀ n j, inL (Jv h n j)) ∧ ∀ n, Ln h n < 2147483648
/-! what is given of statics and constants, and stays -/
def wNm : List String := ["ROCK", "TO", "NAME", "WHEN", "RANK", "DRAW", "FULL", "BROKEN", "DOTTED", "STEEP", "DRIFT", "HOLDS", "TIGHT", "REMAIN", "FROM", "AND", "OR", "NOT", "COLOUR", "GRAIN", "HARD", "FIZZ", "KIND", "HAND", "DEPTH", "HEIGHT", "AGREED", "SET_APART", "ALIKE", "KEPT_ONES"]
def wCo : List Int := [365321, 555, 276647, 458690, 355412, 91904, 133743, 38567165, 65775622, 10494835, 2486801, 4555648, 10811306, 261194396, 131638, 1111, 423, 10631, 51266052, 4075367, 158683, 125387, 223456, 158575, 2236391, 117630947, 682484, 847604, 375062, 220610]
def wFa : List Int := [(-1), (-1), (-1), (-1), (-1), (-1), (-1), (-1), (-1), (-1), (-1), (-1), (-1), (-1), (-1), (-1), (-1), (-1), 0, 1, 2, 3, 4, 5, 6, 7, 8, 9, 10, 11]
def Wd (w : Nat → Nat) (A : Nat → Prop) (U : State) (H : Heap) : Prop := (∀ i, i < 30 → va_Z "LandSurvey$Word" (wNm.getD i "") "LLandSurvey$Word;" (.ref (w i)) A U H ∧ va_OF "LandSurvey$Word" "code" "J" (.long (i64 (wCo.getD i 0))) (w i) A U H ∧ va_OF "LandSurvey$Word" "fact" "I" (.int (i32 (wFa.getD i 0))) (w i) A U H) ∧ (∀ i j, i < 30 → j < 30 → w i = w j → i = j) ∧ va_Z "LandSurvey$Word" "ALL" "[LLandSurvey$Word;" (.ref (w 30)) A U H ∧ va_T (.object "LandSurvey$Word") (w 30) 30 (fun i => .ref (w i)) A U H
def sBy : List (List Int32) := [[40, 41, 60, 61, 43, 45, 59]]
def Sc (w : Nat → Nat) (A : Nat → Prop) (U : State) (H : Heap) : Prop := vk_S 1 [7] sBy (fun _ => w 31) (fun _ => w 32) A U H ∧ va_Z "java/lang/String" "COMPACT_STRINGS" "Z" (.int 1) A U H
def Ev (w : Nat → Nat) (z0 : Nat) (U : State) (H : Heap) : Prop := ((Ey U ∧ va_Nw (.castable "[I" "java/lang/Cloneable") U) ∧ vk_R "LandSurvey$Reader" 87 "()<=+-;" (w 31) U) ∧ Zs (Aof z0) U H ∧ Wd w (Aof z0) U H ∧ Sc w (Aof z0) U H
theorem Ev.moved {w : Nat → Nat} {z0 : Nat} {s U : State} {H H1 : Heap} (hW : s.WarmedH U.vm) (h : Ev w z0 s H) (hq : ∀ a : Nat, a < H.size → ¬ Aof z0 a → H1[a]? = H[a]?) : Ev w z0 U H1 := by
  obtain ⟨⟨⟨h1, h1b⟩, h2⟩, h3, ⟨h4, h5, h6, h7⟩, h8, h9⟩ := h
  have hv := hW.alike
  exact ⟨⟨⟨h1.warm hW, h1b.warmC hW⟩, h2.warm hW⟩, (h3.kept hq).moved hv, ⟨fun i hi => ⟨((h4 i hi).1.kept hq).moved hv, ((h4 i hi).2.1.kept hq).moved hv, ((h4 i hi).2.2.kept hq).moved hv⟩, h5, (h6.kept hq).moved hv, (h7.kept hq).moved hv⟩, (h8.kept hq).moved hv, (h9.kept hq).moved hv⟩
theorem Ev.same {w : Nat → Nat} {z0 : Nat} {s U : State} {H : Heap} (e : s.vm = U.vm) (h : Ev w z0 s H) : Ev w z0 U H := by
  obtain ⟨⟨⟨h1, h1b⟩, h2⟩, h3, ⟨h4, h5, h6, h7⟩, h8, h9⟩ := h
  have hv : s.vm.Alike U.vm := e ▸ Vm.Alike.refl s.vm
  exact ⟨⟨⟨h1.same e, va_Nw.same rfl e h1b⟩, h2.same e.symm⟩, h3.moved hv, ⟨fun i hi => ⟨(h4 i hi).1.moved hv, (h4 i hi).2.1.moved hv, (h4 i hi).2.2.moved hv⟩, h5, h6.moved hv, h7.moved hv⟩, h8.moved hv, h9.moved hv⟩
abbrev lvl (l : List (Nat × LV)) : List (Nat × Value) := l.map (fun q => (q.1, toV q.2))
def Cx (p : Program) (l : Launch) (R : Room) (s : State) (m : MethodId) (args : Array Value) (meth : Method) (c : Code) (D : va_G) (cy : Nat → ClassId) (z0 nL : Nat) (cc : ByteArray) (own : String) (w : Nat → Nat) : Prop := CallFix p m c cc nL s args uu own ∧ KX D cy s ∧ z0 ≤ s.heap.size ∧ meth.locks = false ∧ Ev w z0 s s.heap
def GW (p : Program) (l : Launch) (e : Env) (R : Room) (s : State) (m : MethodId) (args : Array Value) (below : List Frame) (meth : Method) (c : Code) (D : va_G) (cy : Nat → ClassId) (z0 nL : Nat) (Q : State → Prop) (pc : Nat) (lv : List (Nat × LV)) (st : List LV) (h : Hp) (cells slots : Nat) : Prop :=
  ∀ (H : Heap) (locs : List Loc) (ls : Array Slot), Hold D cy z0 h H → va_S (Aof z0) s.heap H locs → lv_has ls nL (lvl lv) → W p l e R s m args below meth c H locs cells slots Q (F0 m pc ls (st.map toV))
/-! what a write does to the pool -/
theorem pl_at {cy : Nat → ClassId} {z0 : Nat} {D : va_G} {h : Hp} {H : Heap} (hH : Hold D cy z0 h H) {n : Nat} (ht : Tg h n ≠ 0) : ∃ (a : Nat) (L : List Nat) (k : Nat), n = a + 1 ∧ a ∈ L ∧ (∀ a, a ∈ L ↔ Tg h (a + 1) ≠ 0) ∧ va_P D vwCl (va_pl L (ceO cy h)) H ∧ va_D (Aof z0) (va_pl L (ceO cy h)) ∧ (va_pl L (ceO cy h))[k]? = some (a, ceO cy h a) := by
  obtain ⟨⟨L, hL, hP, hD⟩, h0, -⟩ := hH
  cases n with
  | zero => exact absurd h0 ht
  | succ a =>
    have ha := (hL a).mpr ht
    obtain ⟨k, hk⟩ := va_pl_get (X := []) (f := ceO cy h) ha
    exact ⟨a, L, k, rfl, ha, hL, hP, hD, by simpa using hk⟩
theorem pl_put {cy : Nat → ClassId} {z0 : Nat} {D : va_G} {h h' : Hp} {H1 : Heap} {a k : Nat} {L : List Nat} {ce : va_E} (hL : ∀ a, a ∈ L ↔ Tg h (a + 1) ≠ 0) (hD0 : va_D (Aof z0) (va_pl L (ceO cy h))) (ha : a ∈ L) (hk : (va_pl L (ceO cy h))[k]? = some (a, ceO cy h a)) (hP : va_P D vwCl ((va_pl L (ceO cy h)).set k (a, ce)) H1) (hD : va_D (Aof z0) ((va_pl L (ceO cy h)).set k (a, ce)))
    (hT : ∀ n, Tg h' n = Tg h n) (hne : ∀ b, b ≠ a → ceO cy h' b = ceO cy h b) (he : ceO cy h' a = ce) (h0 : Tg h' 0 = 0) (hi : ∀ n j, inR (Iv h' n j)) (hj : ∀ n j, inL (Jv h' n j)) (hn : ∀ n, Ln h' n < 2147483648) : Hold D cy z0 h' H1 := by
  have e1 := va_pl_set (X := []) (e := ce) (by simpa using hD0) ha (by simpa using hk)
  simp only [List.nil_append] at e1
  have e2 : va_up (ceO cy h) a ce = ceO cy h' := by
    funext b
    by_cases hb : b = a
    · subst hb; rw [va_up_self, he]
    · rw [va_up_ne _ _ hb, hne b hb]
  rw [e1, e2] at hP hD
  exact ⟨⟨L, fun b => by rw [hT]; exact hL b, hP, hD⟩, h0, hi, hj, hn⟩
theorem pl_new {cy : Nat → ClassId} {z0 : Nat} {D : va_G} {h : Hp} {H H1 : Heap} {a t k : Nat} {L : List Nat} {ce : va_E} (hH : Hold D cy z0 h H) (hL : ∀ a, a ∈ L ↔ Tg h (a + 1) ≠ 0) (hP : va_P D vwCl (va_pl L (ceO cy h) ++ [(a, ce)]) H1) (hD : va_D (Aof z0) (va_pl L (ceO cy h) ++ [(a, ce)])) (hf : a ∉ L) (ht : t ≠ 0) (hk : k < 2147483648)
    (he : ceR cy (t % 1000) k (fun _ => 0) (fun _ => 0) (fun _ => 0) = ce) : Hold D cy z0 (nw h (a + 1) t k) H1 := by
  obtain ⟨-, h0, hi, hj, hn⟩ := hH
  have e2 : va_up (ceO cy h) a ce = ceO cy (nw h (a + 1) t k) := by
    funext b
    by_cases hb : b = a
    · subst hb
      rw [va_up_self, ← he]
      simp [ceO, nw, Tg, Ln, Iv, Jv, Rv, va_up]
    · rw [va_up_ne _ _ hb]
      simp [ceO, nw, Tg, Ln, Iv, Jv, Rv, va_up, hb]
  rw [va_pl_push hf, e2] at hP hD
  refine ⟨⟨L ++ [a], fun b => ?_, hP, hD⟩, ?_, fun n j => ?_, fun n j => ?_, fun n => ?_⟩
  · show b ∈ L ++ [a] ↔ va_up h.1 (a + 1) t (b + 1) ≠ 0
    by_cases hb : b = a
    · subst hb; simp [va_up, ht]
    · have : ¬ b + 1 = a + 1 := by omega
      simp only [List.mem_append, List.mem_singleton, hb, or_false, va_up, this, if_false]
      exact hL b
  · show va_up h.1 (a + 1) t 0 = 0
    simp only [va_up, show ¬ (0 = a + 1) by omega, if_false]
    exact h0
  · show inR (va_up h.2.2.1 (a + 1) (fun _ => 0) n j)
    unfold va_up
    split
    · exact (by decide : inR 0)
    · exact hi n j
  · show inL (va_up h.2.2.2.1 (a + 1) (fun _ => 0) n j)
    unfold va_up
    split
    · exact (by decide : inL 0)
    · exact hj n j
  · show va_up h.2.1 (a + 1) k n < 2147483648
    unfold va_up
    split
    · exact hk
    · exact hn n
theorem up2_inR {f : Nat → Nat → Int} {n j : Nat} {v : Int} (h : ∀ n j, inR (f n j)) (hv : inR v) (a b : Nat) : inR (up2 f n j v a b) := by
  unfold up2
  split
  · exact hv
  · exact h a b
theorem up2_inL {f : Nat → Nat → Int} {n j : Nat} {v : Int} (h : ∀ n j, inL (f n j)) (hv : inL v) (a b : Nat) : inL (up2 f n j v a b) := by
  unfold up2
  split
  · exact hv
  · exact h a b
theorem up2_row {α : Type} (f : Nat → Nat → α) (n j : Nat) (v : α) {b : Nat} (h : ¬ b = n) : up2 f n j v b = f b := by
  funext i
  simp [up2, h]
theorem up2_self {α : Type} (f : Nat → Nat → α) (n j : Nat) (v : α) : up2 f n j v n = fun i => if i = j then v else f n i := by
  funext i
  simp [up2]
theorem ceO_sI {cy : Nat → ClassId} {h : Hp} {a j : Nat} {v : Int} {b : Nat} (hb : b ≠ a) : ceO cy (sI h (a + 1) j v) b = ceO cy h b := by
  simp only [ceO, sI, Tg, Ln, Iv, Jv, Rv, up2_row _ _ _ _ (show ¬ b + 1 = a + 1 by omega)]
theorem ceO_sJ {cy : Nat → ClassId} {h : Hp} {a j : Nat} {v : Int} {b : Nat} (hb : b ≠ a) : ceO cy (sJ h (a + 1) j v) b = ceO cy h b := by
  simp only [ceO, sJ, Tg, Ln, Iv, Jv, Rv, up2_row _ _ _ _ (show ¬ b + 1 = a + 1 by omega)]
theorem ceO_sR {cy : Nat → ClassId} {h : Hp} {a j : Nat} {v : Nat} {b : Nat} (hb : b ≠ a) : ceO cy (sR h (a + 1) j v) b = ceO cy h b := by
  simp only [ceO, sR, Tg, Ln, Iv, Jv, Rv, up2_row _ _ _ _ (show ¬ b + 1 = a + 1 by omega)]
theorem ceO_ob {cy : Nat → ClassId} {h : Hp} {a c T : Nat} (ht : Tg h (a + 1) = T) (hT : T % 1000 = c + 1) (hc : c < 99) : ceO cy h a = .inr (c, fsR c (Iv h (a + 1)) (Jv h (a + 1)) (Rv h (a + 1))) := by
  simp only [ceO, ceR, ht, hT, show c + 1 < 100 by omega, if_true, Nat.add_sub_cancel]
theorem ceO_ar {cy : Nat → ClassId} {h : Hp} {a t T : Nat} (ht : Tg h (a + 1) = T) (hT : T % 1000 = 100 + t) : ceO cy h a = .inl (cy t, arR t (Ln h (a + 1)) (Iv h (a + 1)) (Jv h (a + 1)) (Rv h (a + 1))) := by
  simp only [ceO, ceR, ht, hT, show ¬ 100 + t < 100 by omega, if_false, Nat.add_sub_cancel_left]
theorem fs_get {c j : Nat} {fi fj : Nat → Int} {fr : Nat → Nat} (hj : j < nf c) : (fsR c fi fj fr)[j]? = some (toV (fvR c fi fj fr j)) := by
  simp [fsR, hj]
theorem fs_set {c j : Nat} {fi fj fi' fj' : Nat → Int} {fr fr' : Nat → Nat} {v : Value} (hv : toV (fvR c fi' fj' fr' j) = v) (hne : ∀ i, i ≠ j → fvR c fi' fj' fr' i = fvR c fi fj fr i) : fsR c fi' fj' fr' = (fsR c fi fj fr).set j v := by
  apply List.ext_getElem?
  intro i
  unfold fsR
  rw [List.getElem?_set]
  by_cases hi : j = i
  · subst hi
    by_cases hl : j < nf c
    · simp [hl, hv]
    · simp [hl]
  · rw [if_neg hi]
    by_cases hl : i < nf c
    · simp [hl, hne i (Ne.symm hi)]
    · simp [hl]
def rt (h : Hp) (n t : Nat) : Hp := (va_up h.1 n t, h.2.1, h.2.2.1, h.2.2.2.1, h.2.2.2.2)
theorem va_up_at {α : Type} (f : Nat → α) (n : Nat) (v : α) (m : Nat) : va_up f n v m = if m = n then v else f m := rfl
theorem pl_rt {cy : Nat → ClassId} {z0 : Nat} {D : va_G} {h : Hp} {H : Heap} {n t : Nat} (hH : Hold D cy z0 h H) (hn : Tg h n ≠ 0) (ht : t ≠ 0) (hb : t % 1000 = Tg h n % 1000) : Hold D cy z0 (rt h n t) H := by
  obtain ⟨⟨L, hL, hP, hD⟩, h0, hi, hj, hl⟩ := hH
  have e : ceO cy (rt h n t) = ceO cy h := by
    funext b
    unfold ceO
    have e1 : Tg (rt h n t) (b + 1) % 1000 = Tg h (b + 1) % 1000 := by
      show va_up h.1 n t (b + 1) % 1000 = _
      rw [va_up_at]
      split
      · rename_i q; rw [q]; exact hb
      · rfl
    rw [e1]
    rfl
  refine ⟨⟨L, fun b => ?_, by rw [e]; exact hP, by rw [e]; exact hD⟩, ?_, hi, hj, hl⟩
  · rw [hL b]
    show _ ↔ va_up h.1 n t (b + 1) ≠ 0
    rw [va_up_at]
    split
    · rename_i q; rw [q]; exact ⟨fun _ => ht, fun _ => hn⟩
    · exact Iff.rfl
  · show va_up h.1 n t 0 = 0
    rw [va_up_at]
    split
    · rename_i q; subst q; exact absurd h0 hn
    · exact h0
