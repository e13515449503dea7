/-! COPY: a method of a class that is not plain by name; copies of arrays -/
theorem met_ofWF {l : Launch} {y : MethodName} {ws ws' : List Cond} {rm : Room} {Pc : Array Value → State → Prop} {Qc : Array Value → State → Outcome → State → Prop} {mc ms : Nat} {free : Addr → Prop} {cc : ByteArray} {maxL : Nat} {ret : Option FieldType}
    (hy : plainFor y = true) (hw : ws = Cond.code y cc maxL ret :: ws')
    (body : ∀ p e s m args below meth c s₁, BodyLoose p l y (headSpec ws rm) cc maxL ret e s m args below meth c s₁ → c.maxLocals = maxL → Pc args s →
      W p l e (headSpec ws rm).room s m args below meth c s.heap [] 0 0 (MQ below Qc args s mc ms free) (entryFrame m args maxL)) : Met l y ws rm Pc Qc mc ms free := by
  refine MetFree.of_bodySF (code := cc) (maxLocals := maxL) (ret := ret) hy ?_ ?_
  · intro args s m h hn
    obtain ⟨meth, c, h1, h2, h3, h4, h5, h6, -, -⟩ := Cond.code_spec hn (atoms_spec (ws := ws) h _ (by rw [hw]; exact List.mem_cons_self))
    exact ⟨meth, c, h1, h2, h3, h4, h5, h6⟩
  · intro p e s m args below meth c s₁ B hml hP _
    have hh0 : s₁.heap = s.heap := by rw [B.state]; rfl
    obtain ⟨t, a1, o, b1, b2, b3⟩ := body p e s m args below meth c s₁ B hml hP s₁ hh0 (Stand.of_body B)
    exact ⟨t, o, a1, b1, b2, ⟨b3.1, b3.2⟩⟩
theorem hm_goF {l : Launch} {D : va_G} {cy : Nat → ClassId} {w : Nat → Nat} {z0 : Nat} {y : MethodName} {b : ByteArray} {n : Nat} {r : Option FieldType} {fr lo mc ms : Nat} {av : List LV} {h : Hp} {Qc : Array Value → State → Outcome → State → Prop} (hy : plainFor y = true) (hlen : lvn av ≤ n)
    (body : ∀ (p : Program) (e : Env) (s : State) (m : MethodId) (below : List Frame) (meth : Method) (c : Code), Cx p l (rmm fr lo mc ms) s m (av.map toV).toArray meth c D cy z0 n b y.cls w → meth.sig.returnType = r → meth.name = y.name →
      GW p l e (rmm fr lo mc ms) s m (av.map toV).toArray below meth c D cy z0 n (MQ below Qc (av.map toV).toArray s mc ms (Aof z0)) 0 (lva 0 av) [] h 0 0) :
    Met l y (wU y b n r) (rmm fr lo mc ms) (va_Pc (av.map toV) (HIv D cy w z0 h)) Qc mc ms (Aof z0) := by
  refine met_ofWF (cc := b) (maxL := n) (ret := r) hy rfl ?_
  intro p e s m args below meth c s₁ B hml hv
  obtain ⟨rfl, hz, hH, hK, hE⟩ := hv
  have hts := atoms_spec (ws := wU y b n r) B.pre
  have hown : s.vm.findClass y.cls = some m.cls := findClass_of_methodNamed B.named
  have hin : meth.name = y.name := (name_of_methodNamed B.named B.method).1
  have hl := lv_entry (av.map toV) (n := n) (by rw [lvn_eq]; exact hlen)
  rw [lg_entry_eq]
  rw [lva_eq] at hl
  exact body p e s m below meth c ⟨⟨B.exec, B.bytes, hml, hown, fun w h => hts w (List.mem_cons_of_mem _ h)⟩, hK, hz, B.notSynchronized, hE⟩ B.returns hin s.heap [] _ hH va_S.rf hl
def sA (h : Hp) (n : Nat) (f : Nat → Int) : Hp := (h.1, h.2.1, va_up h.2.2.1 n f, h.2.2.2.1, h.2.2.2.2)
theorem ceO_sA {cy : Nat → ClassId} {h : Hp} {a : Nat} {f : Nat → Int} {b : Nat} (hb : b ≠ a) : ceO cy (sA h (a + 1) f) b = ceO cy h b := by
  have e : va_up h.2.2.1 (a + 1) f (b + 1) = h.2.2.1 (b + 1) := by rw [va_up_at, if_neg (by omega)]
  simp only [ceO, sA, Tg, Ln, Iv, Jv, Rv, e]
theorem sA_self {h : Hp} {n : Nat} {f : Nat → Int} : Iv (sA h n f) n = f := by show va_up _ _ _ _ = _; rw [va_up_at, if_pos rfl]
theorem Okh.pA {h h1 : Hp} {n T : Nat} {f : Nat → Int} {lo hi : Int} {b : Bool} (O : Okh h) (t : Tg h n = T) (hT : ¬ T % 1000 < 100) (hh : sA h n f = h1) (hr : rI T 0 = (lo, hi, b)) (hf : ∀ i, lo ≤ f i ∧ f i ≤ hi ∧ (b = true → f i < -20 ∨ -13 < f i)) : Okh h1 := by
  subst hh
  refine ⟨O.1, fun m i => ?_, O.2.2.1, O.2.2.2.1, O.2.2.2.2⟩
  show okI (Tg h m) i (va_up h.2.2.1 n f m i)
  rw [va_up_at]
  split
  · rename_i e
    subst e
    rw [t]
    unfold okI
    rw [rI_arr hT i, hr]
    exact hf i
  · exact O.2.1 m i
theorem fx_sA {h h1 : Hp} {n T : Nat} {f : Nat → Int} (t : Tg h n = T) (hT : ¬ T % 1000 < 100) (hh : sA h n f = h1) : Fx [T * 200] h h1 := by
  subst hh
  refine ⟨?_, fun m hm => Or.inl hm⟩
  intro m hm
  refine ⟨rfl, rfl, fun j hj => ⟨?_, rfl, rfl⟩⟩
  show va_up h.2.2.1 n f m j = _
  rw [va_up_at]
  split
  · rename_i e
    subst e
    rw [t, enc_arr hT] at hj
    simp at hj
  · rfl
theorem pl_newA {cy : Nat → ClassId} {z0 : Nat} {D : va_G} {h : Hp} {H H1 : Heap} {a t k : Nat} {f : Nat → Int} {L : List Nat} {ce : va_E} (hH : Hold D cy z0 h H) (hL : ∀ a, a ∈ L ↔ Tg h (a + 1) ≠ 0) (hP : va_P D vwCl (va_pl L (ceO cy h) ++ [(a, ce)]) H1) (hD : va_D (Aof z0) (va_pl L (ceO cy h) ++ [(a, ce)])) (hf : a ∉ L) (ht : t ≠ 0) (hk : k < 2147483648) (hfi : ∀ i, inR (f i))
    (he : ceR cy (t % 1000) k f (fun _ => 0) (fun _ => 0) = ce) : Hold D cy z0 (sA (nw h (a + 1) t k) (a + 1) f) H1 := by
  obtain ⟨-, h0, hi, hj, hn⟩ := hH
  have e2 : va_up (ceO cy h) a ce = ceO cy (sA (nw h (a + 1) t k) (a + 1) f) := by
    funext b
    by_cases hb : b = a
    · subst hb
      rw [va_up_self, ← he]
      simp [ceO, sA, nw, Tg, Ln, Iv, Jv, Rv, va_up]
    · rw [va_up_ne _ _ hb]
      simp [ceO, sA, nw, Tg, Ln, Iv, Jv, Rv, va_up, hb]
  rw [va_pl_push hf, e2] at hP hD
  refine ⟨⟨L ++ [a], fun b => ?_, hP, hD⟩, ?_, fun n j => ?_, fun n j => ?_, fun n => ?_⟩
  · show b ∈ L ++ [a] ↔ va_up h.1 (a + 1) t (b + 1) ≠ 0
    by_cases hb : b = a
    · subst hb; simp [va_up, ht]
    · have : ¬ b + 1 = a + 1 := by omega
      simp only [List.mem_append, List.mem_singleton, hb, or_false, va_up, this, if_false]
      exact hL b
  · show va_up h.1 (a + 1) t 0 = 0
    simp only [va_up, show ¬ (0 = a + 1) by omega, if_false]
    exact h0
  · show inR (va_up (va_up h.2.2.1 (a + 1) (fun _ => 0)) (a + 1) f n j)
    rw [va_up_at, va_up_at]
    split
    · exact hfi j
    · exact hi n j
  · show inL (va_up h.2.2.2.1 (a + 1) (fun _ => 0) n j)
    unfold va_up
    split
    · exact (by decide : inL 0)
    · exact hj n j
  · show va_up h.2.1 (a + 1) k n < 2147483648
    unfold va_up
    split
    · exact hk
    · exact hn n
section CP1
variable {p : Program} {l : Launch} {e : Env} {R : Room} {s : State} {m : MethodId} {args : Array Value} {below : List Frame} {meth : Method} {c : Code} {cells slots : Nat} {Q : State → Prop}
variable {D : va_G} {cy : Nat → ClassId} {cc : ByteArray} {z0 nL : Nat} {own : String} {pc : Nat} {lv : List (Nat × LV)} {st : List LV} {h : Hp} {w : Nat → Nat}
theorem g_copyi (C : Cx p l R s m args meth c D cy z0 nL cc own w) {n0 n1 T0 T1 idx : Nat} {c0 : Int} (ht0 : Tg h n0 = T0) (hT0 : T0 % 1000 = 100) (ht1 : Tg h n1 = T1) (hT1 : T1 % 1000 = 100) {k0 k1 : Nat} (hl0 : Ln h n0 = k0) (hl1 : Ln h n1 = k1) (hc : inR c0) (hc0 : 0 ≤ c0 ∧ c0 ≤ (k0 : Int) ∧ c0 ≤ (k1 : Int)) (v1 : Cond.methodLink own idx arraycopyName ∈ uu) (v2 : Cond.native arraycopyName ∈ uu) (v3 : Cond.static arraycopyName ∈ uu) (v4 : Cond.initialized "java/lang/System" ∈ uu) (hfr : 1 ≤ R.frames) (hlo : lvn st + (nativeFrameWords "java/lang/System" "arraycopy" 5 + 11) ≤ R.locals) (d : decode cc pc = .ok (.invokestatic idx, 3)) (k : ∀ h1, sA h n1 (fun i => if i < c0.toNat then Iv h n0 i else Iv h n1 i) = h1 → GW p l e R s m args below meth c D cy z0 nL Q (pc + 3) lv st h1 cells slots) : GW p l e R s m args below meth c D cy z0 nL Q pc lv (.inl c0 :: .inl 0 :: .inr (.inr n1) :: .inl 0 :: .inr (.inr n0) :: st) h cells slots := fun H locs ls hH hS hl => by
  have ht := C.1.2.2.2.2
  obtain ⟨a0, L, q0, rfl, ha0, hL, hP, hD, hq0⟩ := pl_at hH (n := n0) (fun q => by rw [ht0] at q; subst q; exact absurd hT0 (by omega))
  have hz1 : Tg h n1 ≠ 0 := fun q => by rw [ht1] at q; subst q; exact absurd hT1 (by omega)
  cases n1 with
  | zero => exact absurd hH.2.1 hz1
  | succ a1 =>
    have ha1 := (hL a1).mpr hz1
    obtain ⟨q1, hq1⟩ := va_pl_get (X := []) (f := ceO cy h) ha1
    simp only [List.nil_append] at hq1
    rw [ceO_ar (t := 0) ht0 hT0] at hq0
    have hq1b := hq1
    rw [ceO_ar (t := 0) ht1 hT1] at hq1b
    have ec : (i32 c0).toNatClampNeg = c0.toNat := z_clamp hc hc0.1
    refine va_copyi C.1.1 C.1.2.1 (C.1.2.2.1.trans hl.1.symm) C.1.2.2.2.1 (ht _ v1) (ht _ v2) (ht _ v3) (ht _ v4) C.2.1.1 hP hD hS q0 q1 0 0 hq0 hq1b rfl rfl rfl (sp := i32 0) (dp := i32 0) (n := i32 c0) (by decide) (by decide) (z_nneg hc hc0.1) (by rw [ec]; show 0 + c0.toNat ≤ _; rw [hl0]; omega) (by rw [ec]; show 0 + c0.toNat ≤ _; rw [hl1]; omega) (fun _ _ => rfl) hfr (by rw [catL]; exact hlo) d (fun H1 locs1 hP1 hD1 hS1 => k _ rfl H1 locs1 ls ?_ hS1 hl)
    refine pl_put hL hD ha1 hq1 hP1 hD1 (fun _ => rfl) (fun b hb => ceO_sA hb) ?_ hH.2.1 (fun n2 j2 => ?_) hH.2.2.2.1 hH.2.2.2.2
    · rw [ceO_ar (t := 0) (show Tg (sA h (a1 + 1) _) (a1 + 1) = T1 from ht1) hT1]
      rw [sA_self]
      show Sum.inl (cy 0, _, _) = Sum.inl (cy 0, _, _)
      congr 3
      show Sum.inl _ = Sum.inl _
      congr 1
      funext z
      show i32 (if z < c0.toNat then Iv h (a0 + 1) z else Iv h (a1 + 1) z) = va_cpy (fun i => i32 (Iv h (a0 + 1) i)) (fun i => i32 (Iv h (a1 + 1) i)) 0 0 (i32 c0).toNatClampNeg z
      unfold va_cpy
      rw [ec]
      by_cases hz : z < c0.toNat
      · rw [if_pos hz, if_pos ⟨Nat.zero_le _, by omega⟩]
        simp
      · rw [if_neg hz, if_neg (by omega)]
    · show inR (va_up h.2.2.1 (a1 + 1) _ n2 j2)
      rw [va_up_at]
      split
      · show inR (if j2 < c0.toNat then Iv h (a0 + 1) j2 else Iv h (a1 + 1) j2)
        split
        · exact hH.2.2.1 _ _
        · exact hH.2.2.1 _ _
      · exact hH.2.2.1 _ _
theorem g_clone (C : Cx p l R s m args meth c D cy z0 nL cc own w) {n0 T0 idx : Nat} (T1 : Nat) (hT1 : T1 % 1000 = 100) (ht0 : Tg h n0 = T0) (hT0 : T0 % 1000 = 100) {k0 : Nat} (hl0 : Ln h n0 = k0) (v1 : Cond.methodLink own idx ⟨"[I", "clone", "()Ljava/lang/Object;"⟩ ∈ uu) (v2 : Cond.sameMethod "[I" "java/lang/Object" "clone" "()Ljava/lang/Object;" ∈ uu) (v3 : Cond.native ⟨"java/lang/Object", "clone", "()Ljava/lang/Object;"⟩ ∈ uu) (v4 : Cond.instanceMethod ⟨"java/lang/Object", "clone", "()Ljava/lang/Object;"⟩ ∈ uu) (v5 : Cond.selects "[I" ⟨"[I", "clone", "()Ljava/lang/Object;"⟩ ⟨"java/lang/Object", "clone", "()Ljava/lang/Object;"⟩ ∈ uu) (hfr : 1 ≤ R.frames) (hlo : lvn st + 14 ≤ R.locals) (hcells : cells + 1 ≤ R.cells) (hslots : slots + k0 ≤ R.slots) (d : decode cc pc = .ok (.invokevirtual idx, 3)) (k : ∀ n, n ≠ 0 → Tg h n = 0 → ∀ h1, nw h n T1 k0 = h1 → ∀ h2, sA h1 n (Iv h n0) = h2 → GW p l e R s m args below meth c D cy z0 nL Q (pc + 3) lv (.inr (.inr n) :: st) h2 (cells + 1) (slots + k0)) : GW p l e R s m args below meth c D cy z0 nL Q pc lv (.inr (.inr n0) :: st) h cells slots := fun H locs ls hH hS hl => by
  have ht := C.1.2.2.2.2
  have hH2 := hH
  obtain ⟨a0, L, q0, rfl, ha0, hL, hP, hD, hq0⟩ := pl_at hH (n := n0) (fun q => by rw [ht0] at q; subst q; exact absurd hT0 (by omega))
  rw [ceO_ar (t := 0) ht0 hT0] at hq0
  subst hl0
  refine va_clone C.1.1 C.1.2.1 (C.1.2.2.1.trans hl.1.symm) C.1.2.2.2.1 (ht _ v1) (ht _ v2) (ht _ v3) (ht _ v4) (ht _ v5) C.2.2.2.2.1.1.2 C.2.1.1 hP hD hS (fun q hq => Nat.le_trans C.2.2.1 hq) q0 0 hq0 rfl (C.2.1.1.2 0 (cy 0, .int) rfl).2 (fun i v hv => ?_) hfr (by rw [catL]; exact hlo) hcells hslots d (fun q H1 hK1 hP1 hD1 hS1 => ?_)
  · have : ∃ x : Int32, v = .int x := by
      have hv2 : (arrV (cy 0) (Ln h (a0 + 1)) (fun j => Value.int (i32 (Iv h (a0 + 1) j)))).slots[i]? = some v := hv
      by_cases hi : i < Ln h (a0 + 1)
      · rw [arrV_read _ _ hi] at hv2
        exact ⟨_, (Option.some.inj hv2).symm⟩
      · have hsz : (arrV (cy 0) (Ln h (a0 + 1)) (fun j => Value.int (i32 (Iv h (a0 + 1) j)))).slots.size = Ln h (a0 + 1) := by simp [arrV]
        rw [Array.getElem?_eq_none (by omega)] at hv2
        exact absurd hv2 (by simp)
    obtain ⟨x, rfl⟩ := this
    rfl
  · have hf := pl_fresh hD1
    exact k (q + 1) (by omega) (Classical.byContradiction fun z => hf ((hL q).mpr z)) _ rfl _ rfl H1 locs ls (pl_newA hH2 hL hP1 hD1 hf (fun z => by subst z; exact absurd hT1 (by omega)) (hH2.2.2.2.2 _) (fun i => hH2.2.2.1 _ _) (by rw [hT1]; rfl)) hS1 hl
theorem g_castA (C : Cx p l R s m args meth c D cy z0 nL cc own w) {n0 T0 idx : Nat} (ht0 : Tg h n0 = T0) (hT0 : T0 % 1000 = 100) (v1 : Cond.classLink own idx "[I" ∈ uu) (d : decode cc pc = .ok (.checkcast idx, 3)) (k : GW p l e R s m args below meth c D cy z0 nL Q (pc + 3) lv (.inr (.inr n0) :: st) h cells slots) : GW p l e R s m args below meth c D cy z0 nL Q pc lv (.inr (.inr n0) :: st) h cells slots := fun H locs ls hH hS hl => by
  obtain ⟨a0, L, q0, rfl, ha0, hL, hP, hD, hq0⟩ := pl_at hH (n := n0) (fun q => by rw [ht0] at q; subst q; exact absurd hT0 (by omega))
  rw [ceO_ar (t := 0) ht0 hT0] at hq0
  exact va_castA C.1.1 C.1.2.1 C.1.2.2.2.1 (C.1.2.2.2.2 _ v1) hP q0 hq0 (C.2.1.1.2 0 (cy 0, .int) rfl).2 d (k H locs ls hH hS hl)
end CP1
