/-! STAT: statics and what they hold -/
section ST1
variable {p : Program} {l : Launch} {e : Env} {R : Room} {s : State} {m : MethodId} {args : Array Value} {below : List Frame} {meth : Method} {c : Code} {cells slots : Nat} {Q : State → Prop}
variable {D : va_G} {cy : Nat → ClassId} {cc : ByteArray} {z0 nL : Nat} {own : String} {pc : Nat} {lv : List (Nat × LV)} {st : List LV} {h : Hp} {w : Nat → Nat}
theorem g_gets (C : Cx p l R s m args meth c D cy z0 nL cc own w) {Cn n dd : String} {idx : Nat} {x : LV} (hZ : va_Z Cn n dd (toV x) (Aof z0) s s.heap) (hw : Cond.fieldLink own idx Cn n dd ∈ uu) (d : decode cc pc = .ok (.getstatic idx, 3)) (k : GW p l e R s m args below meth c D cy z0 nL Q (pc + 3) lv (x :: st) h cells slots) : GW p l e R s m args below meth c D cy z0 nL Q pc lv st h cells slots := fun H locs ls hH hS hl => va_gets C.1.1 C.1.2.1 hZ hS C.1.2.2.2.1 (C.1.2.2.2.2 _ hw) (fun _ h => h) d (k H locs ls hH hS hl)
theorem g_getf (C : Cx p l R s m args meth c D cy z0 nL cc own w) {Cn n dd : String} {idx q : Nat} {x : LV} (hE : va_OF Cn n dd (toV x) q (Aof z0) s s.heap) (hw : Cond.fieldLink own idx Cn n dd ∈ uu) (d : decode cc pc = .ok (.getfield idx, 3)) (k : GW p l e R s m args below meth c D cy z0 nL Q (pc + 3) lv (x :: st) h cells slots) : GW p l e R s m args below meth c D cy z0 nL Q pc lv (.inr (.inr (q + 1)) :: st) h cells slots := fun H locs ls hH hS hl => vk_getf C.1.1 C.1.2.1 hE hS C.1.2.2.2.1 (C.1.2.2.2.2 _ hw) (fun _ h => h) d (k H locs ls hH hS hl)
theorem g_getf2 (C : Cx p l R s m args meth c D cy z0 nL cc own w) {Cn n dd : String} {idx q v : Nat} {x : LV} (ev : v = q + 1) (hE : va_OF Cn n dd (toV x) q (Aof z0) s s.heap) (hw : Cond.fieldLink own idx Cn n dd ∈ uu) (d : decode cc pc = .ok (.getfield idx, 3)) (k : GW p l e R s m args below meth c D cy z0 nL Q (pc + 3) lv (x :: st) h cells slots) : GW p l e R s m args below meth c D cy z0 nL Q pc lv (.inr (.inr v) :: st) h cells slots := by subst ev; exact g_getf C hE hw d k
theorem g_tlen (C : Cx p l R s m args meth c D cy z0 nL cc own w) {ty : FieldType} {t N : Nat} {f : Nat → Value} (hT : va_T ty t N f (Aof z0) s s.heap) (d : decode cc pc = .ok (.arraylength, 1)) (k : GW p l e R s m args below meth c D cy z0 nL Q (pc + 1) lv (.inl (N : Int) :: st) h cells slots) : GW p l e R s m args below meth c D cy z0 nL Q pc lv (.inr (.inr (t + 1)) :: st) h cells slots := fun H locs ls hH hS hl => va_tlen C.1.1 C.1.2.1 hT hS (v := i32 (N : Int)) rfl d (k H locs ls hH hS hl)
theorem g_taq (C : Cx p l R s m args meth c D cy z0 nL cc own w) {Cn : String} {t N : Nat} {g : Nat → Nat} {i : Int} (hN : N < 2147483648) (hT : va_T (.object Cn) t N (fun j => .ref (g j)) (Aof z0) s s.heap) (hi : 0 ≤ i ∧ i < (N : Int)) (d : decode cc pc = .ok (.aaload, 1)) (k : GW p l e R s m args below meth c D cy z0 nL Q (pc + 1) lv (.inr (.inr (g i.toNat + 1)) :: st) h cells slots) : GW p l e R s m args below meth c D cy z0 nL Q pc lv (.inl i :: .inr (.inr (t + 1)) :: st) h cells slots := fun H locs ls hH hS hl => by
  obtain ⟨cell, h1, h2, h3, h4, h5, h6, h7⟩ := hT
  have hc : (i32 i).toNatClampNeg = i.toNat := z_clamp (by omega) hi.1
  have hin' : ¬ (i32 i < 0 ∨ cell.slots.size ≤ (i32 i).toNatClampNeg) := by
    intro q
    rcases q with q | q
    · exact z_nneg (by omega) hi.1 q
    · rw [hc] at q; omega
  exact W.aald (v := .ref (g i.toNat)) C.1.1 C.1.2.1 (by rw [hS.2.1 t (Array.getElem?_eq_some_iff.mp h1).1 h7]; exact h1) h2 rfl h3 hin' (by rw [hc]; exact h6 _ (by omega)) rfl rfl d (k H locs ls hH hS hl)
theorem g_tb (C : Cx p l R s m args meth c D cy z0 nL cc own w) {t N : Nat} {f : Nat → Int32} {i : Int} (hN : N < 2147483648) (hT : va_T .byte t N (fun j => .int (f j)) (Aof z0) s s.heap) (hi : 0 ≤ i ∧ i < (N : Int)) (d : decode cc pc = .ok (.baload, 1)) (k : ∀ v, inR v → GW p l e R s m args below meth c D cy z0 nL Q (pc + 1) lv (.inl v :: st) h cells slots) : GW p l e R s m args below meth c D cy z0 nL Q pc lv (.inl i :: .inr (.inr (t + 1)) :: st) h cells slots := fun H locs ls hH hS hl => by
  have hc : (i32 i).toNatClampNeg = i.toNat := z_clamp (by omega) hi.1
  have h1 := k (f i.toNat).toInt (inR_of _) H locs ls hH hS hl
  refine va_tb C.1.1 C.1.2.1 hT hS (i := i32 i) ?_ (v := .int (f i.toNat)) (by rw [hc]) d (by simpa [toV, i32_of] using h1)
  intro q
  rcases q with q | q
  · exact z_nneg (by omega) hi.1 q
  · rw [hc] at q; omega
theorem g_mmin2 (C : Cx p l R s m args meth c D cy z0 nL cc own w) {x y : Int} {idx : Nat} (hx : inR x) (hy : inR y) (v1 : Cond.methodLink own idx Lib.Math.min.name ∈ uu) (v2 : Cond.static Lib.Math.min.name ∈ uu) (v3 : Cond.initialized "java/lang/Math" ∈ uu) (v4 : Cond.code Lib.Math.min.name Lib.Math.min.code 2 (some .int) ∈ uu) (hf : 1 ≤ R.frames) (hlo : lvn st + 13 ≤ R.locals) (hc : cells ≤ R.cells) (hs : slots ≤ R.slots) (d : decode cc pc = .ok (.invokestatic idx, 3)) (k : ∀ v, (v ≤ x ∧ v ≤ y ∧ (v = x ∨ v = y)) → GW p l e R s m args below meth c D cy z0 nL Q (pc + 3) lv (.inl v :: st) h cells slots) : GW p l e R s m args below meth c D cy z0 nL Q pc lv (.inl y :: .inl x :: st) h cells slots := fun H locs ls hH hS hl => by
  have ht := C.1.2.2.2.2
  refine va_mmin C.1.1 C.1.2.1 (C.1.2.2.1.trans hl.1.symm) C.1.2.2.2.1 (ht _ v1) (ht _ v2) (ht _ v3) (ht _ v4) hf (by rw [catL]; exact hlo) hc hs d ?_
  split
  · rename_i q
    rw [Int32.lt_iff_toInt_lt, i32_toInt hx, i32_toInt hy] at q
    exact k y ⟨by omega, by omega, Or.inr rfl⟩ H locs ls hH hS hl
  · rename_i q
    rw [Int32.lt_iff_toInt_lt, i32_toInt hx, i32_toInt hy] at q
    exact k x ⟨by omega, by omega, Or.inl rfl⟩ H locs ls hH hS hl
theorem g_ldcS (C : Cx p l R s m args meth c D cy z0 nL cc own w) {idx q : Nat} {tx : String} (hZ : vk_R own idx tx q s) (d : decode cc pc = .ok (.ldc idx, 2)) (k : GW p l e R s m args below meth c D cy z0 nL Q (pc + 2) lv (.inr (.inr (q + 1)) :: st) h cells slots) : GW p l e R s m args below meth c D cy z0 nL Q pc lv st h cells slots := fun H locs ls hH hS hl => va_ldcS C.1.1 C.1.2.1 C.1.2.2.2.1 hZ d (k H locs ls hH hS hl)
variable {y : MethodName} {b : ByteArray} {n : Nat} {r : Option FieldType} {fr lo mc ms : Nat} {As : List LV} {idx k : Nat} {Qc : Array Value → State → Outcome → State → Prop} {st0 : List LV}
theorem gc_VS (C : Cx p l R s m args meth c D cy z0 nL cc own w) (k0 : lkV own idx y b n r k) (hy : y.cls = "java/lang/String") (hM : Met l y (wU y b n r) (rmm fr lo mc ms) (va_Pc ((.inr (.inr (w 31 + 1)) :: As).map toV) (HIv D cy w z0 h)) Qc mc ms (Aof z0)) (hk : As.length = k) (hR : fr + 1 ≤ R.frames ∧ 8 + (n + 11) + lo ≤ R.locals) (hcat : lvn st ≤ 8) (d : decode cc pc = .ok (.invokevirtual idx, 3)) (hf : cells + mc ≤ R.cells ∧ slots + ms ≤ R.slots) :
    ∀ (H : Heap) (locs : List Loc) (ls : Array Slot), Hold D cy z0 h H → va_S (Aof z0) s.heap H locs → lv_has ls nL (lvl lv) → va_Run p l e R s m args below meth c H locs cells slots mc ms (F0 m pc ls ((As.reverse ++ .inr (.inr (w 31 + 1)) :: st).map toV)) (st.map toV) (Qc ((.inr (.inr (w 31 + 1)) :: As : List LV).map toV).toArray) (Aof z0) := fun H locs ls hH hS hl => by
  have hr := vk_recv C.2.2.2.2.2.2.2.1 (i := 0) (by decide) hS
  exact va_runV (Ts := uu) (own := own) (C := y.cls) (b := w 31) (As := As.map toV) C.1 hM (cwV k C.1.2.2.2.2 (gL k0.2.2.2.2.1 (fun w h => by simp only [List.mem_cons, List.not_mem_nil, or_false] at h; rcases h with rfl | rfl | rfl | rfl; exact k0.1; exact k0.2.1; exact k0.2.2.1; exact k0.2.2.2.1)) rfl rfl rfl ⟨rfl, k0.2.2.2.2.2⟩ hR) ⟨hiv_blind, by rw [hy]; exact hr, fun U hU hW => ⟨rfl, hiv_pre C hS hH U hU hW⟩⟩ rfl (by simpa using hk) hl.1 (by simp [F0, toV, rv, opt, va_rf]) (lv_room (by rw [catL]; exact hcat)) d hf
end ST1
theorem wFa_rng (i : Nat) : -1 ≤ wFa.getD i 0 ∧ wFa.getD i 0 ≤ 11 := by
  by_cases h : i < 30
  · have : ∀ i, i < 30 → -1 ≤ wFa.getD i 0 ∧ wFa.getD i 0 ≤ 11 := by decide
    exact this i h
  · have e : wFa.getD i 0 = 0 := by
      have : wFa.length ≤ i := by show 30 ≤ i; omega
      simp [List.getD, List.getElem?_eq_none this]
    rw [e]; decide
theorem la_dig {V x : Int} (h : 0 ≤ V ∧ V ≤ 999999) (hx : 0 ≤ x ∧ x ≤ 9) : lA (lM 10 V) x = 10 * V + x := by
  have e1 : lM 10 V = 10 * V := by
    show (Int64.ofInt 10 * Int64.ofInt V).toInt = _
    rw [← Int64.ofInt_mul]
    exact i64_toInt (by omega)
  unfold lA
  rw [e1]
  show (Int64.ofInt (10 * V) + Int64.ofInt x).toInt = _
  rw [← Int64.ofInt_add]
  exact i64_toInt (by omega)
/-! the reader -/
def DOk (h : Hp) (rd : Nat) : Prop := ∀ k : Nat, (k : Int) < Iv h (Rv h rd 13) 13 → (Iv h (Rv h (Rv h rd 13) 14) k = 0 → Iv h (Rv h (Rv h rd 13) 15) k ≤ 9) ∧ Iv h (Rv h (Rv h rd 13) 16) k ≤ Iv h rd 12
def ddeps : List Nat := [812, 813, 401213, 401214, 401215, 401216, 31100 * 200, 33100 * 200, 35100 * 200]
theorem DOk_fx {wr : List Nat} {h h1 : Hp} {rd : Nat} (O : Okh h) (F : Fx wr h h1) (t : Tg h rd = 4) (tm : Tg h (Rv h rd 13) = 2006) (hw : ddeps.all (fun e => !wr.elem e) = true) (p : DOk h rd) : DOk h1 rd := by
  have w : ∀ e, ddeps.elem e = true → wr.elem e = false := fun e he => by
    have := List.all_eq_true.mp hw e (List.elem_iff.mp he)
    simpa using this
  have e13 : Rv h1 rd 13 = Rv h rd 13 := fxR (T := 3) F t (w _ rfl)
  have e12 : Iv h1 rd 12 = Iv h rd 12 := fxI (T := 3) F t (w _ rfl)
  have t14 : Tg h (Rv h (Rv h rd 13) 14) = 31100 := ok_R O tm rE_2006_14 rfl
  have t15 : Tg h (Rv h (Rv h rd 13) 15) = 33100 := ok_R O tm rE_2006_15 rfl
  have t16 : Tg h (Rv h (Rv h rd 13) 16) = 35100 := ok_R O tm rE_2006_16 rfl
  intro k hk
  rw [e13] at hk ⊢
  rw [fxI (T := 2005) (i := 13) F tm (w _ rfl)] at hk
  rw [fxR (T := 2005) (i := 14) F tm (w _ rfl), fxR (T := 2005) (i := 15) F tm (w _ rfl), fxR (T := 2005) (i := 16) F tm (w _ rfl), fxIa (T := 31099) F t14 ar_31100 (w _ rfl), fxIa (T := 33099) F t15 ar_33100 (w _ rfl), fxIa (T := 35099) F t16 ar_35100 (w _ rfl), e12]
  exact p k hk
theorem DOk_cl {h h1 : Hp} {rd : Nat} {v : Int} (O : Okh h) (t : Tg h rd = 4) (tm : Tg h (Rv h rd 13) = 2006) (hh : sI h rd 12 v = h1) (hv : Iv h rd 12 ≤ v) (p : DOk h rd) : DOk h1 rd := fun k hk => by
  have n13 := ne_tag tm t (by decide)
  have n14 := ne_tag (ok_R O tm rE_2006_14 rfl) t (by decide)
  have n15 := ne_tag (ok_R O tm rE_2006_15 rfl) t (by decide)
  have n16 := ne_tag (ok_R O tm rE_2006_16 rfl) t (by decide)
  rw [pIR hh] at hk ⊢
  rw [pI_n hh n13] at hk
  rw [pIR hh, pIR hh, pIR hh, pI_n hh n14, pI_n hh n15, pI_n hh n16, pI_e hh]
  have := p k hk
  omega
theorem DOk_line {h h1 h2 h3 h4 : Hp} {rd md a14 a15 a16 : Nat} {n kind says : Int} (O : Okh h) (t : Tg h rd = 4) (e13 : Rv h rd 13 = md) (tm : Tg h md = 2006) (e14 : Rv h md 14 = a14) (e15 : Rv h md 15 = a15) (e16 : Rv h md 16 = a16) (hn : Iv h md 13 = n) (hn0 : 0 ≤ n) (k1 : sI h a14 n.toNat kind = h1) (k2 : sI h1 a15 n.toNat says = h2) {c : Int} (hc : Iv h rd 12 = c) (k3 : sI h2 a16 n.toNat c = h3) (k4 : sI h3 md 13 (n + 1) = h4) (hk : kind = 0 → says ≤ 9) (p : DOk h rd) : DOk h4 rd := by
  have t14 : Tg h a14 = 31100 := e14 ▸ ok_R O tm rE_2006_14 rfl
  have t15 : Tg h a15 = 33100 := e15 ▸ ok_R O tm rE_2006_15 rfl
  have t16 : Tg h a16 = 35100 := e16 ▸ ok_R O tm rE_2006_16 rfl
  have m4 : rd ≠ md := ne_tag t tm (by decide)
  have m14 : a14 ≠ md := ne_tag t14 tm (by decide)
  have m15 : a15 ≠ md := ne_tag t15 tm (by decide)
  have m16 : a16 ≠ md := ne_tag t16 tm (by decide)
  have q1 : a14 ≠ a15 := ne_tag t14 t15 (by decide)
  have q2 : a14 ≠ a16 := ne_tag t14 t16 (by decide)
  have q3 : a15 ≠ a16 := ne_tag t15 t16 (by decide)
  have r14 : rd ≠ a14 := ne_tag t t14 (by decide)
  have r15 : rd ≠ a15 := ne_tag t t15 (by decide)
  have r16 : rd ≠ a16 := ne_tag t t16 (by decide)
  have g13 : Rv h4 rd 13 = md := by rw [pIR k4, pIR k3, pIR k2, pIR k1, e13]
  have g14 : Rv h4 md 14 = a14 := by rw [pIR k4, pIR k3, pIR k2, pIR k1, e14]
  have g15 : Rv h4 md 15 = a15 := by rw [pIR k4, pIR k3, pIR k2, pIR k1, e15]
  have g16 : Rv h4 md 16 = a16 := by rw [pIR k4, pIR k3, pIR k2, pIR k1, e16]
  have gc : Iv h4 rd 12 = c := by rw [pI_n k4 m4, pI_n k3 r16, pI_n k2 r15, pI_n k1 r14, hc]
  intro k hk2
  rw [g13, pI_e k4] at hk2
  rw [g13, g14, g15, g16, gc]
  by_cases e : k = n.toNat
  · subst e
    have s14 : Iv h4 a14 n.toNat = kind := by rw [pI_n k4 m14, pI_n k3 q2, pI_n k2 q1, pI_e k1]
    have s15 : Iv h4 a15 n.toNat = says := by rw [pI_n k4 m15, pI_n k3 q3, pI_e k2]
    have s16 : Iv h4 a16 n.toNat = c := by rw [pI_n k4 m16, pI_e k3]
    rw [s14, s15, s16]
    exact ⟨hk, Int.le_refl c⟩
  · have s14 : Iv h4 a14 k = Iv h a14 k := by rw [pI_n k4 m14, pI_n k3 q2, pI_n k2 q1, pI_j k1 e]
    have s15 : Iv h4 a15 k = Iv h a15 k := by rw [pI_n k4 m15, pI_n k3 q3, pI_j k2 e, pI_n k1 (Ne.symm q1)]
    have s16 : Iv h4 a16 k = Iv h a16 k := by rw [pI_n k4 m16, pI_j k3 e, pI_n k2 (Ne.symm q3), pI_n k1 (Ne.symm q2)]
    rw [s14, s15, s16]
    have := p k (by rw [e13, hn]; omega)
    rw [e13, e14, e15, e16, hc] at this
    exact this
theorem l2w_eq {x : Int} (h : -2147483648 ≤ x ∧ x ≤ 2147483647) : l2w x = x := by
  unfold l2w
  rw [Int64.toInt_toInt32, i64_toInt (by omega)]
  exact Int.bmod_eq_of_le (by omega) (by omega)
theorem wCo_in (i : Nat) : inL (wCo.getD i 0) := by
  by_cases h : i < 30
  · have : ∀ i, i < 30 → inL (wCo.getD i 0) := by decide
    exact this i h
  · have e : wCo.getD i 0 = 0 := by
      have : wCo.length ≤ i := by show 30 ≤ i; omega
      simp [List.getD, List.getElem?_eq_none this]
    rw [e]; decide
def WOk (w : Nat → Nat) (v : Nat) : Prop := v = 0 ∨ ∃ i, i < 30 ∧ v = w i + 1
theorem WOk.get {w : Nat → Nat} {v : Nat} (p : WOk w v) (q : ¬ v = 0) : ∃ i, i < 30 ∧ v = w i + 1 := p.resolve_left q
def RInv (w : Nat → Nat) (h : Hp) (rd : Nat) : Prop := Tg h (Rv h rd 13) = 2006 ∧ DOk h rd ∧ (Iv h rd 4 = 2 → 0 ≤ Jv h rd 5 ∧ Jv h rd 5 ≤ 9999) ∧ WOk w (Rv h rd 6)
