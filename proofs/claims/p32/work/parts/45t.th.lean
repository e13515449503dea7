/-! TH: methods that return or throw NoSuchElementException, over the abstract heap -/
theorem Hold.grow {D : va_G} {cy : Nat → ClassId} {z0 : Nat} {h : Hp} {H H1 : Heap} (hH : Hold D cy z0 h H) (h2 : ∀ q : Nat, q < H.size → H1[q]? = H[q]?) : Hold D cy z0 h H1 := by
  obtain ⟨⟨L, hL, hP, hD⟩, r⟩ := hH
  exact ⟨⟨L, hL, hP.kept (fun k q hk => h2 q.1 (hP k q hk).lt), hD⟩, r⟩
abbrev XCh (D : va_G) (cy : Nat → ClassId) (z0 : Nat) (Kx : Hp → Prop) : String → State → State → Prop := vx_X Kx (fun E h' t => E = nsee ∧ Hold D cy z0 h' t.heap) (Aof z0)
def MX (l : Launch) (D : va_G) (cy : Nat → ClassId) (w : Nat → Nat) (z0 : Nat) (y : MethodName) (b : ByteArray) (n : Nat) (r : Option FieldType) (fr lo mc ms : Nat) (av : List LV) (h : Hp) (K : Int → Hp → Prop) (Kx : Hp → Prop) : Prop := vx_Met l y (wU y b n r) (rmm fr lo mc ms) (va_Pc (av.map toV) (HIv D cy w z0 h)) (QI D cy z0 K) (XCh D cy z0 Kx) mc ms (Aof z0)
theorem xm_go {l : Launch} {D : va_G} {cy : Nat → ClassId} {w : Nat → Nat} {z0 : Nat} {y : MethodName} {b : ByteArray} {n : Nat} {r : Option FieldType} {fr lo mc ms : Nat} {av : List LV} {h : Hp} {K : Int → Hp → Prop} {Kx : Hp → Prop} (hy : plainName y.cls = true) (hlen : lvn av ≤ n)
    (body : ∀ (p : Program) (e : Env) (s : State) (m : MethodId) (below : List Frame) (meth : Method) (c : Code), Cx p l (rmm fr lo mc ms) s m (av.map toV).toArray meth c D cy z0 n b y.cls w → meth.sig.returnType = r → (∀ x ∈ c.exceptionTable.toList, False) →
      GW p l e (rmm fr lo mc ms) s m (av.map toV).toArray below meth c D cy z0 n (vx_MQ below (QI D cy z0 K) (XCh D cy z0 Kx) (av.map toV).toArray s mc ms (Aof z0)) 0 (lva 0 av) [] h 0 0) :
    MX l D cy w z0 y b n r fr lo mc ms av h K Kx := by
  refine vx_ofW (cc := b) (maxL := n) (ret := r) hy rfl ?_
  intro p e s m args below meth c s₁ B hml hT hv
  obtain ⟨rfl, hz, hH, hK, hE⟩ := hv
  have hts := atoms_spec (ws := wU y b n r) B.pre
  have hown : s.vm.findClass y.cls = some m.cls := findClass_of_methodNamed B.named
  have hl := lv_entry (av.map toV) (n := n) (by rw [lvn_eq]; exact hlen)
  rw [lg_entry_eq]
  rw [lva_eq] at hl
  exact body p e s m below meth c ⟨⟨B.exec, B.bytes, hml, hown, fun w h => hts w (List.mem_cons_of_mem _ h)⟩, hK, hz, B.notSynchronized, hE⟩ B.returns hT s.heap [] _ hH va_S.rf hl
section TH1
variable {p : Program} {l : Launch} {e : Env} {R : Room} {s : State} {m : MethodId} {args : Array Value} {below : List Frame} {meth : Method} {c : Code} {cells slots : Nat} {Q : State → Prop}
variable {D : va_G} {cy : Nat → ClassId} {cc : ByteArray} {z0 nL : Nat} {own : String} {pc : Nat} {lv : List (Nat × LV)} {st : List LV} {h : Hp} {w : Nat → Nat}
theorem g_xr {Qc : Array Value → State → Outcome → State → Prop} {XC : String → State → State → Prop} {mc ms : Nat} (k : GW p l e R s m args below meth c D cy z0 nL (MQ below Qc args s mc ms (Aof z0)) pc lv st h cells slots) : GW p l e R s m args below meth c D cy z0 nL (vx_MQ below Qc XC args s mc ms (Aof z0)) pc lv st h cells slots := fun H locs ls hH hS hl => vx_ret (k H locs ls hH hS hl)
theorem g_throw (C : Cx p l R s m args meth c D cy z0 nL cc "LandSurvey" w) {Qc : Array Value → State → Outcome → State → Prop} {Kx : Hp → Prop} {mc ms : Nat} (hst : l.stackTraces = false) (hT : ∀ x ∈ c.exceptionTable.toList, False) (v1 : Cond.classLink "LandSurvey" 166 nsee ∈ uu) (v2 : Cond.initialized nsee ∈ uu)
    (d0 : decode cc pc = .ok (.new 166, 3)) (d3 : decode cc (pc + 3) = .ok (.dup, 1)) (d4 : decode cc (pc + 4) = .ok (.invokespecial 168, 3)) (d7 : decode cc (pc + 7) = .ok (.athrow, 1)) (hk : Kx h)
    (hf : 5 < R.frames) (hlo : lvn st + 81 ≤ R.locals) (hc1 : cells + 1 ≤ R.cells) (hs1 : slots + 6 ≤ R.slots) (hc : cells + 1 ≤ mc) (hs : slots + 6 ≤ ms) :
    GW p l e R s m args below meth c D cy z0 nL (vx_MQ below Qc (XCh D cy z0 Kx) args s mc ms (Aof z0)) pc lv st h cells slots := fun H locs ls hH hS hl => by
  have hts := C.1.2.2.2.2
  exact vx_throw0 (own := "LandSurvey") (cls := nsee) (names := nms) (A := Aof z0) C.1.1 C.1.2.1 hst C.1.2.2.2.1 (by decide +kernel) (by decide +kernel) (hts _ v1) (hts _ v2) (x_hat hts C.2.2.2.2.1.1.1) x_good C.2.2.2.2.2.1.1 C.2.2.2.2.2.1.2 hS (hl.1.trans C.1.2.2.1.symm) d0 d3 d4 d7 (fun x hx => absurd (hT x hx) id) hf (by rw [catL]; exact hlo) hc1 hs1 C.2.2.2.1
    (fun t _ h1 h2 => ⟨h, hk, ⟨rfl, hH.grow h2⟩, Nat.le_trans hS.1 h1, fun q hq hA => (h2 q (Nat.lt_of_lt_of_le hq hS.1)).trans (hS.2.1 q hq hA)⟩) hS.2.2 hc hs
variable {y : MethodName} {b : ByteArray} {n : Nat} {r : Option FieldType} {fr lo mc ms : Nat} {As : List LV} {idx k : Nat} {K : Int → Hp → Prop} {Kx : Hp → Prop}
theorem gx_V (C : Cx p l R s m args meth c D cy z0 nL cc own w) {n0 ci T0 : Nat} {T : u_T} {N : Nat} (k0 : lkV own idx y b n r k) (hM : MX l D cy w z0 y b n r fr lo mc ms (.inr (.inr n0) :: As) h K Kx) (ht : Tg h n0 = T0) (hT0 : T0 % 1000 = ci + 1) (hci : vwCl[ci]? = some (y.cls, T, N)) (hk : As.length = k) (hR : fr + 1 ≤ R.frames ∧ 8 + (n + 11) + lo ≤ R.locals) (hcat : lvn st ≤ 8) (d : decode cc pc = .ok (.invokevirtual idx, 3)) (hf : cells + mc ≤ R.cells ∧ slots + ms ≤ R.slots) :
    ∀ (H : Heap) (locs : List Loc) (ls : Array Slot), Hold D cy z0 h H → va_S (Aof z0) s.heap H locs → lv_has ls nL (lvl lv) → vx_Run p l e R s m args below meth c H locs cells slots mc ms (F0 m pc ls ((As.reverse ++ .inr (.inr n0) :: st).map toV)) (st.map toV) (QI D cy z0 K ((.inr (.inr n0) :: As : List LV).map toV).toArray) (XCh D cy z0 Kx) (Aof z0) := fun H locs ls hH hS hl => by
  obtain ⟨a, L, q, rfl, ha, hL, hP, hD, hq⟩ := pl_at hH (n := n0) (fun q => by rw [ht] at q; subst q; exact absurd hT0 (by omega))
  rw [ceO_ob ht hT0 (vw_lt hci)] at hq
  exact vx_runV (Ts := uu) (own := own) (C := y.cls) (b := a) (As := As.map toV) C.1 hM (cwV k C.1.2.2.2.2 (gL k0.2.2.2.2.1 (fun w h => by simp only [List.mem_cons, List.not_mem_nil, or_false] at h; rcases h with rfl | rfl | rfl | rfl; exact k0.1; exact k0.2.1; exact k0.2.2.1; exact k0.2.2.2.1)) rfl rfl rfl ⟨rfl, k0.2.2.2.2.2⟩ hR) ⟨hiv_blind, va_recv C.2.1.1 hP hci hq, fun U hU hW => ⟨rfl, hiv_pre C hS hH U hU hW⟩⟩ rfl (by simpa using hk) hl.1 (by simp [F0, toV, rv, opt, va_rf]) (lv_room (by rw [catL]; exact hcat)) d hf
theorem g_callX (C : Cx p l R s m args meth c D cy z0 nL cc own w) {a : Array Value} {st0 : List LV} {a0 a1 a2 : Nat} (hTab : c.exceptionTable.toList = tableOf [(a0, a1, a2, 13)]) (hcov : a0 ≤ pc ∧ pc < a1) (v1 : Cond.classLink own 13 nsee ∈ uu)
    (hr : ∀ (H : Heap) (locs : List Loc) (ls : Array Slot), Hold D cy z0 h H → va_S (Aof z0) s.heap H locs → lv_has ls nL (lvl lv) → vx_Run p l e R s m args below meth c H locs cells slots mc ms (F0 m pc ls (st0.map toV)) (st.map toV) (QI D cy z0 K a) (XCh D cy z0 Kx) (Aof z0))
    (kx : ∀ (q : Nat) (h' : Hp), Kx h' → GW p l e R s m args below meth c D cy z0 nL Q a2 lv [.inr (.inr q)] h' (cells + mc) (slots + ms)) (kk : ∀ (v : Int) (h' : Hp), inR v → K v h' → GW p l e R s m args below meth c D cy z0 nL Q (pc + 3) lv (.inl v :: st) h' (cells + mc) (slots + ms)) : GW p l e R s m args below meth c D cy z0 nL Q pc lv st0 h cells slots := fun H locs ls hH hS hl => by
  refine vx_calli (hr H locs ls hH hS hl) hS (fun q _ h => h) (fun q h => h) (fun q _ h => h) (fun E ce q9 u t H1 locs1 ht hvm hpx hB hz hk2 hS1 hce hcv hcl => ?_) (fun v u t H1 locs1 ht hvm hw hB hz1 hk1 hS1 => ?_)
  · obtain ⟨hE, hB⟩ := hB
    subst hE
    have h1 := kx (q9 + 1) u hpx H1 locs1 ls (ht ▸ hB) hS1 hl
    refine x_catch (a0 := a0) (a1 := a1) (a2 := a2) C.1 hTab hcov v1 C.2.2.2.2.1.1.1 hce hcv hcl ?_
    simpa [toV, rv, opt, va_rf] using h1
  · have h1 := kk v.toInt u (inR_of v) hw H1 locs1 ls (ht ▸ hB) hS1 hl
    simpa [toV, i32_of] using h1
end TH1
def MW (l : Launch) (D : va_G) (cy : Nat → ClassId) (w : Nat → Nat) (z0 : Nat) (y : MethodName) (b : ByteArray) (n : Nat) (r : Option FieldType) (hh : List (Nat × Nat × Nat × Nat)) (fr lo mc ms : Nat) (av : List LV) (h : Hp) (K : Int → Hp → Prop) : Prop := Met l y (wW y b n r hh) (rmm fr lo mc ms) (va_Pc (av.map toV) (HIv D cy w z0 h)) (QI D cy z0 K) mc ms (Aof z0)
theorem wm_go {l : Launch} {D : va_G} {cy : Nat → ClassId} {w : Nat → Nat} {z0 : Nat} {y : MethodName} {b : ByteArray} {n : Nat} {r : Option FieldType} {hh : List (Nat × Nat × Nat × Nat)} {fr lo mc ms : Nat} {av : List LV} {h : Hp} {K : Int → Hp → Prop} (hy : plainName y.cls = true) (hlen : lvn av ≤ n)
    (body : ∀ (p : Program) (e : Env) (s : State) (m : MethodId) (below : List Frame) (meth : Method) (c : Code), Cx p l (rmm fr lo mc ms) s m (av.map toV).toArray meth c D cy z0 n b y.cls w → meth.sig.returnType = r → c.exceptionTable.toList = tableOf hh →
      GW p l e (rmm fr lo mc ms) s m (av.map toV).toArray below meth c D cy z0 n (MQ below (QI D cy z0 K) (av.map toV).toArray s mc ms (Aof z0)) 0 (lva 0 av) [] h 0 0) :
    MW l D cy w z0 y b n r hh fr lo mc ms av h K := by
  refine va_MetW (cc := b) (maxL := n) (ret := r) (hh := hh) hy rfl ?_
  intro p e s m args below meth c s₁ B hml hv
  obtain ⟨rfl, hz, hH, hK, hE⟩ := hv
  have hts := atoms_spec (ws := wW y b n r hh) B.pre
  have hown : s.vm.findClass y.cls = some m.cls := findClass_of_methodNamed B.named
  have hTab := vx_table (x := y) B (hts _ List.mem_cons_self)
  have hl := lv_entry (av.map toV) (n := n) (by rw [lvn_eq]; exact hlen)
  rw [lg_entry_eq]
  rw [lva_eq] at hl
  exact body p e s m below meth c ⟨⟨B.exec, B.bytes, hml, hown, fun w h => hts w (List.mem_cons_of_mem _ h)⟩, hK, hz, B.notSynchronized, hE⟩ B.returns hTab s.heap [] _ hH va_S.rf hl
section TH2
variable {p : Program} {l : Launch} {e : Env} {R : Room} {s : State} {m : MethodId} {args : Array Value} {below : List Frame} {meth : Method} {c : Code} {cells slots : Nat} {Q : State → Prop}
variable {D : va_G} {cy : Nat → ClassId} {cc : ByteArray} {z0 nL : Nat} {own : String} {pc : Nat} {lv : List (Nat × LV)} {st : List LV} {h : Hp} {w : Nat → Nat}
variable {y : MethodName} {b : ByteArray} {n : Nat} {r : Option FieldType} {hh : List (Nat × Nat × Nat × Nat)} {fr lo mc ms : Nat} {As : List LV} {idx k : Nat} {K : Int → Hp → Prop}
theorem gw_S (C : Cx p l R s m args meth c D cy z0 nL cc own w) (hM : MW l D cy w z0 y b n r hh fr lo mc ms As h K) (v1 : Cond.methodLink own idx y ∈ uu) (v2 : Cond.static y ∈ uu) (v4 : Cond.initialized y.cls ∈ uu) (v5 : Cond.codeWith y b n r hh ∈ uu) (hy : yok y k) (hk : As.length = k) (hR : fr + 1 ≤ R.frames ∧ 8 + (n + 11) + lo ≤ R.locals) (hcat : lvn st ≤ 8) (d : decode cc pc = .ok (.invokestatic idx, 3)) (hf : cells + mc ≤ R.cells ∧ slots + ms ≤ R.slots) :
    ∀ (H : Heap) (locs : List Loc) (ls : Array Slot), Hold D cy z0 h H → va_S (Aof z0) s.heap H locs → lv_has ls nL (lvl lv) → va_Run p l e R s m args below meth c H locs cells slots mc ms (F0 m pc ls ((As.reverse ++ st).map toV)) (st.map toV) (QI D cy z0 K (As.map toV).toArray) (Aof z0) := fun H locs ls hH hS hl =>
  vx_runSW (Ts := uu) (own := own) (hh := hh) (bytes := b) (maxL := n) (ret := r) C.1 hM (vx_cwSW k C.1.2.2.2.2 (gLW v5 (fun w h => by simp only [List.mem_cons, List.not_mem_nil, or_false] at h; rcases h with rfl | rfl | rfl <;> assumption)) rfl rfl rfl hy hR) ⟨hiv_blind, fun U hU hW => ⟨rfl, hiv_pre C hS hH U hU hW⟩⟩ rfl (by simpa using hk) hl.1 (by simp [F0]) (lv_room (by rw [catL]; exact hcat)) d hf
end TH2
