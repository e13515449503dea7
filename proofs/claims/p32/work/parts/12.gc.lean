/-! GC: contracts over the abstract heap, their entry, calls and ends -/
def HIv (D : va_G) (cy : Nat → ClassId) (w : Nat → Nat) (z0 : Nat) (h : Hp) (U : State) : Prop := z0 ≤ U.heap.size ∧ Hold D cy z0 h U.heap ∧ KX D cy U ∧ Ev w z0 U U.heap
def Bh (D : va_G) (cy : Nat → ClassId) (z0 : Nat) : Hp → State → Prop := fun h t => Hold D cy z0 h t.heap
abbrev QI (D : va_G) (cy : Nat → ClassId) (z0 : Nat) (K : Int → Hp → Prop) := va_Qi (fun v h' => K v.toInt h') (Bh D cy z0) (Aof z0)
abbrev QJ (D : va_G) (cy : Nat → ClassId) (z0 : Nat) (K : Int → Hp → Prop) := va_Ql (fun v h' => K v.toInt h') (Bh D cy z0) (Aof z0)
abbrev QR (D : va_G) (cy : Nat → ClassId) (z0 : Nat) (K : Nat → Hp → Prop) := va_Qq (fun v h' => K (un v) h') (Bh D cy z0) (Aof z0)
abbrev QV (D : va_G) (cy : Nat → ClassId) (z0 : Nat) (K : Hp → Prop) := va_Qv (fun h' => K h') (Bh D cy z0) (Aof z0)
def MI (l : Launch) (D : va_G) (cy : Nat → ClassId) (w : Nat → Nat) (z0 : Nat) (y : MethodName) (b : ByteArray) (n : Nat) (r : Option FieldType) (fr lo mc ms : Nat) (av : List LV) (h : Hp) (K : Int → Hp → Prop) : Prop := Met l y (wU y b n r) (rmm fr lo mc ms) (va_Pc (av.map toV) (HIv D cy w z0 h)) (QI D cy z0 K) mc ms (Aof z0)
def MJ (l : Launch) (D : va_G) (cy : Nat → ClassId) (w : Nat → Nat) (z0 : Nat) (y : MethodName) (b : ByteArray) (n : Nat) (r : Option FieldType) (fr lo mc ms : Nat) (av : List LV) (h : Hp) (K : Int → Hp → Prop) : Prop := Met l y (wU y b n r) (rmm fr lo mc ms) (va_Pc (av.map toV) (HIv D cy w z0 h)) (QJ D cy z0 K) mc ms (Aof z0)
def MR (l : Launch) (D : va_G) (cy : Nat → ClassId) (w : Nat → Nat) (z0 : Nat) (y : MethodName) (b : ByteArray) (n : Nat) (r : Option FieldType) (fr lo mc ms : Nat) (av : List LV) (h : Hp) (K : Nat → Hp → Prop) : Prop := Met l y (wU y b n r) (rmm fr lo mc ms) (va_Pc (av.map toV) (HIv D cy w z0 h)) (QR D cy z0 K) mc ms (Aof z0)
def MV (l : Launch) (D : va_G) (cy : Nat → ClassId) (w : Nat → Nat) (z0 : Nat) (y : MethodName) (b : ByteArray) (n : Nat) (r : Option FieldType) (fr lo mc ms : Nat) (av : List LV) (h : Hp) (K : Hp → Prop) : Prop := Met l y (wU y b n r) (rmm fr lo mc ms) (va_Pc (av.map toV) (HIv D cy w z0 h)) (QV D cy z0 K) mc ms (Aof z0)
def lva : Nat → List LV → List (Nat × LV)
  | _, [] => []
  | i, x :: r => (i, x) :: lva (if isL x then i + 2 else i + 1) r
def lvn : List LV → Nat
  | [] => 0
  | x :: r => (if isL x then 2 else 1) + lvn r
theorem lva_eq (av : List LV) : ∀ i, lv_args i (av.map toV) = lvl (lva i av) := by
  induction av with
  | nil => intro i; rfl
  | cons x r ih =>
    intro i
    simp only [List.map_cons, lv_args, lva, lvl, toV_cat]
    rw [ih]
    cases isL x <;> rfl
theorem lvn_eq (av : List LV) : (lg_sl (av.map toV)).length = lvn av := by
  induction av with
  | nil => rfl
  | cons x r ih =>
    have e : lg_sl (List.map toV (x :: r)) = (if (toV x).category = 2 then [.val (toV x), .second] else [.val (toV x)]) ++ lg_sl (r.map toV) := by simp [lg_sl]
    rw [e, List.length_append, ih, lvn, toV_cat]
    cases isL x <;> rfl
theorem catL (st : List LV) : ((st.map toV).map fun v => v.category).sum = lvn st := by
  induction st with
  | nil => rfl
  | cons x r ih =>
    simp only [List.map_cons, List.sum_cons, lvn, toV_cat, ih]
theorem hiv_blind {av : List Value} {D : va_G} {cy : Nat → ClassId} {w : Nat → Nat} {z0 : Nat} {h : Hp} : FrameBlind (va_Pc av (HIv D cy w z0 h)) := fun a U g mk q => by
  obtain ⟨q0, q1, qH, qK, qE⟩ := q
  exact ⟨q0, q1, qH, ⟨va_K.moved (u := U) (U := U.calling g mk a) (Vm.Alike.refl U.vm) qK.1, Ex.same (V := U.calling g mk a) rfl qK.2⟩, Ev.same (U := U.calling g mk a) rfl qE⟩
theorem hiv_pre {p : Program} {l : Launch} {R : Room} {s : State} {m : MethodId} {args : Array Value} {meth : Method} {c : Code} {D : va_G} {cy : Nat → ClassId} {z0 nL : Nat} {cc : ByteArray} {own : String} {w : Nat → Nat} {H : Heap} {locs : List Loc} {h : Hp} (C : Cx p l R s m args meth c D cy z0 nL cc own w) (hS : va_S (Aof z0) s.heap H locs) (hH : Hold D cy z0 h H) (U : State) (hU : U.heap = H) (hW : s.WarmedH U.vm) : HIv D cy w z0 h U :=
  ⟨by rw [hU]; exact Nat.le_trans C.2.2.1 hS.1, by rw [hU]; exact hH, KX.warm hW C.2.1, by rw [hU]; exact C.2.2.2.2.moved hW hS.2.1⟩
theorem hm_go {l : Launch} {D : va_G} {cy : Nat → ClassId} {w : Nat → Nat} {z0 : Nat} {y : MethodName} {b : ByteArray} {n : Nat} {r : Option FieldType} {fr lo mc ms : Nat} {av : List LV} {h : Hp} {Qc : Array Value → State → Outcome → State → Prop} (hy : plainName y.cls = true) (hlen : lvn av ≤ n)
    (body : ∀ (p : Program) (e : Env) (s : State) (m : MethodId) (below : List Frame) (meth : Method) (c : Code), Cx p l (rmm fr lo mc ms) s m (av.map toV).toArray meth c D cy z0 n b y.cls w → meth.sig.returnType = r → meth.name = y.name →
      GW p l e (rmm fr lo mc ms) s m (av.map toV).toArray below meth c D cy z0 n (MQ below Qc (av.map toV).toArray s mc ms (Aof z0)) 0 (lva 0 av) [] h 0 0) :
    Met l y (wU y b n r) (rmm fr lo mc ms) (va_Pc (av.map toV) (HIv D cy w z0 h)) Qc mc ms (Aof z0) := by
  refine Met.ofW (cc := b) (maxL := n) (ret := r) hy rfl ?_
  intro p e s m args below meth c s₁ B hml hv
  obtain ⟨rfl, hz, hH, hK, hE⟩ := hv
  have hts := atoms_spec (ws := wU y b n r) B.pre
  have hown : s.vm.findClass y.cls = some m.cls := findClass_of_methodNamed B.named
  have hin : meth.name = y.name := (name_of_methodNamed B.named B.method).1
  have hl := lv_entry (av.map toV) (n := n) (by rw [lvn_eq]; exact hlen)
  rw [lg_entry_eq]
  rw [lva_eq] at hl
  exact body p e s m below meth c ⟨⟨B.exec, B.bytes, hml, hown, fun w h => hts w (List.mem_cons_of_mem _ h)⟩, hK, hz, B.notSynchronized, hE⟩ B.returns hin s.heap [] _ hH va_S.rf hl
theorem g_loop {σ : Type} {P : σ → Prop} (I : σ → Prop) (μ : σ → Nat) (step : ∀ s, I s → (∀ s', I s' → μ s' < μ s → P s') → P s) : ∀ s, I s → P s := by
  have key : ∀ (n : Nat) (s : σ), μ s = n → I s → P s := by
    intro n
    induction n using Nat.strongRecOn with
    | ind n ih =>
      intro s hs hI
      exact step s hI (fun s' hI' hlt => ih (μ s') (by omega) s' rfl hI')
  exact fun s hI => key (μ s) s rfl hI
section GC1
variable {p : Program} {l : Launch} {e : Env} {R : Room} {s : State} {m : MethodId} {args : Array Value} {below : List Frame} {meth : Method} {c : Code} {cells slots : Nat} {Q : State → Prop}
variable {D : va_G} {cy : Nat → ClassId} {cc : ByteArray} {z0 nL : Nat} {own : String} {pc : Nat} {lv : List (Nat × LV)} {st : List LV} {h : Hp} {w : Nat → Nat}
variable {y : MethodName} {b : ByteArray} {n : Nat} {r : Option FieldType} {fr lo mc ms : Nat} {As : List LV} {idx k : Nat} {Qc : Array Value → State → Outcome → State → Prop}
theorem gr_S (C : Cx p l R s m args meth c D cy z0 nL cc own w) (hM : Met l y (wU y b n r) (rmm fr lo mc ms) (va_Pc (As.map toV) (HIv D cy w z0 h)) Qc mc ms (Aof z0)) (v1 : Cond.methodLink own idx y ∈ uu) (v2 : Cond.static y ∈ uu) (v4 : Cond.initialized y.cls ∈ uu) (v5 : Cond.code y b n r ∈ uu) (hy : yok y k) (hk : As.length = k) (hR : fr + 1 ≤ R.frames ∧ 8 + (n + 11) + lo ≤ R.locals) (hcat : lvn st ≤ 8) (d : decode cc pc = .ok (.invokestatic idx, 3)) (hf : cells + mc ≤ R.cells ∧ slots + ms ≤ R.slots) :
    ∀ (H : Heap) (locs : List Loc) (ls : Array Slot), Hold D cy z0 h H → va_S (Aof z0) s.heap H locs → lv_has ls nL (lvl lv) → va_Run p l e R s m args below meth c H locs cells slots mc ms (F0 m pc ls ((As.reverse ++ st).map toV)) (st.map toV) (Qc (As.map toV).toArray) (Aof z0) := fun H locs ls hH hS hl =>
  va_runS (Ts := uu) (own := own) C.1 hM (va_cwS k C.1.2.2.2.2 (gL v5 (fun w h => by simp only [List.mem_cons, List.not_mem_nil, or_false] at h; rcases h with rfl | rfl | rfl <;> assumption)) rfl rfl rfl hy hR) ⟨hiv_blind, fun U hU hW => ⟨rfl, hiv_pre C hS hH U hU hW⟩⟩ rfl (by simpa using hk) hl.1 (by simp [F0]) (lv_room (by rw [catL]; exact hcat)) d hf
theorem gr_V (C : Cx p l R s m args meth c D cy z0 nL cc own w) {n0 ci T0 : Nat} {T : u_T} {N : Nat} (hM : Met l y (wU y b n r) (rmm fr lo mc ms) (va_Pc ((.inr (.inr n0) :: As).map toV) (HIv D cy w z0 h)) Qc mc ms (Aof z0)) (ht : Tg h n0 = T0) (hT0 : T0 % 1000 = ci + 1) (hci : vwCl[ci]? = some (y.cls, T, N)) (v1 : Cond.methodLink own idx y ∈ uu) (v2 : Cond.instanceMethod y ∈ uu) (v3 : Cond.selects y.cls y y ∈ uu) (v4 : Cond.initialized y.cls ∈ uu) (v5 : Cond.code y b n r ∈ uu) (hy : yok y k) (hk : As.length = k) (hR : fr + 1 ≤ R.frames ∧ 8 + (n + 11) + lo ≤ R.locals) (hcat : lvn st ≤ 8) (d : decode cc pc = .ok (.invokevirtual idx, 3)) (hf : cells + mc ≤ R.cells ∧ slots + ms ≤ R.slots) :
    ∀ (H : Heap) (locs : List Loc) (ls : Array Slot), Hold D cy z0 h H → va_S (Aof z0) s.heap H locs → lv_has ls nL (lvl lv) → va_Run p l e R s m args below meth c H locs cells slots mc ms (F0 m pc ls ((As.reverse ++ .inr (.inr n0) :: st).map toV)) (st.map toV) (Qc ((.inr (.inr n0) :: As : List LV).map toV).toArray) (Aof z0) := fun H locs ls hH hS hl => by
  obtain ⟨a, L, q, rfl, ha, hL, hP, hD, hq⟩ := pl_at hH (n := n0) (fun q => by rw [ht] at q; subst q; exact absurd hT0 (by omega))
  rw [ceO_ob ht hT0 (vw_lt hci)] at hq
  exact va_runV (Ts := uu) (own := own) (C := y.cls) (b := a) (As := As.map toV) C.1 hM (cwV k C.1.2.2.2.2 (gL v5 (fun w h => by simp only [List.mem_cons, List.not_mem_nil, or_false] at h; rcases h with rfl | rfl | rfl | rfl <;> assumption)) rfl rfl rfl ⟨rfl, hy⟩ hR) ⟨hiv_blind, va_recv C.2.1.1 hP hci hq, fun U hU hW => ⟨rfl, hiv_pre C hS hH U hU hW⟩⟩ rfl (by simpa using hk) hl.1 (by simp [F0, toV, rv, opt, va_rf]) (lv_room (by rw [catL]; exact hcat)) d hf
theorem gr_I (C : Cx p l R s m args meth c D cy z0 nL cc own w) {n0 : Nat} (hr : r = none) (hM : Met l y (wU y b n r) (rmm fr lo mc ms) (va_Pc ((.inr (.inr n0) :: As).map toV) (HIv D cy w z0 h)) Qc mc ms (Aof z0)) (ht : Tg h n0 ≠ 0) (v1 : Cond.methodLink own idx y ∈ uu) (v2 : Cond.instanceMethod y ∈ uu) (v4 : Cond.initialized y.cls ∈ uu) (v5 : Cond.code y b n r ∈ uu) (hy : yok y k) (hnm : y.name = "<init>") (hk : As.length = k) (hR : fr + 1 ≤ R.frames ∧ 8 + (n + 11) + lo ≤ R.locals) (hcat : lvn st ≤ 8) (d : decode cc pc = .ok (.invokespecial idx, 3)) (hf : cells + mc ≤ R.cells ∧ slots + ms ≤ R.slots) :
    ∀ (H : Heap) (locs : List Loc) (ls : Array Slot), Hold D cy z0 h H → va_S (Aof z0) s.heap H locs → lv_has ls nL (lvl lv) → va_Run p l e R s m args below meth c H locs cells slots mc ms (F0 m pc ls ((As.reverse ++ .inr (.inr n0) :: st).map toV)) (st.map toV) (Qc ((.inr (.inr n0) :: As : List LV).map toV).toArray) (Aof z0) := fun H locs ls hH hS hl => by
  subst hr
  obtain ⟨a, L, q, rfl, ha, hL, hP, hD, hq⟩ := pl_at hH ht
  have ht := C.1.2.2.2.2
  exact va_runI (Ts := uu) (own := own) (b := a) (As := As.map toV) C.1 hM (cwI k ht (gU v5) rfl rfl rfl (ht _ v4) (ht _ v1) (ht _ v2) hnm hy hR) ⟨hiv_blind, fun U hU hW => ⟨rfl, hiv_pre C hS hH U hU hW⟩⟩ rfl (by simpa using hk) hl.1 (by simp [F0, toV, rv, opt, va_rf]) (lv_room (by rw [catL]; exact hcat)) d hf
theorem gr_IN (C : Cx p l R s m args meth c D cy z0 nL cc own w) {n0 : Nat} (host : String) (hr : r = none) (hM : Met l y (wU y b n r) (rmm fr lo mc ms) (va_Pc ((.inr (.inr n0) :: As).map toV) (HIv D cy w z0 h)) Qc mc ms (Aof z0)) (ht : Tg h n0 ≠ 0) (v1 : va_Nw (.methodLinkNest own idx y host) s) (v2 : Cond.instanceMethod y ∈ uu) (v4 : Cond.initialized y.cls ∈ uu) (v5 : Cond.code y b n r ∈ uu) (hy : yok y k) (hnm : y.name = "<init>") (hk : As.length = k) (hR : fr + 1 ≤ R.frames ∧ 8 + (n + 11) + lo ≤ R.locals) (hcat : lvn st ≤ 8) (d : decode cc pc = .ok (.invokespecial idx, 3)) (hf : cells + mc ≤ R.cells ∧ slots + ms ≤ R.slots) :
    ∀ (H : Heap) (locs : List Loc) (ls : Array Slot), Hold D cy z0 h H → va_S (Aof z0) s.heap H locs → lv_has ls nL (lvl lv) → va_Run p l e R s m args below meth c H locs cells slots mc ms (F0 m pc ls ((As.reverse ++ .inr (.inr n0) :: st).map toV)) (st.map toV) (Qc ((.inr (.inr n0) :: As : List LV).map toV).toArray) (Aof z0) := fun H locs ls hH hS hl => by
  subst hr
  obtain ⟨a, L, q, rfl, ha, hL, hP, hD, hq⟩ := pl_at hH ht
  have ht := C.1.2.2.2.2
  exact va_runIN (Ts := uu) (own := own) (b := a) (As := As.map toV) C.1 hM ⟨va_cnB k ht (gU v5) rfl rfl rfl v1 (ht _ v4) hy hR, hnm, ht _ v2⟩ ⟨hiv_blind, fun U hU hW => ⟨rfl, hiv_pre C hS hH U hU hW⟩⟩ rfl (by simpa using hk) hl.1 (by simp [F0, toV, rv, opt, va_rf]) (lv_room (by rw [catL]; exact hcat)) d hf
theorem g_callI {K : Int → Hp → Prop} {a : Array Value} {st0 : List LV} (hr : ∀ (H : Heap) (locs : List Loc) (ls : Array Slot), Hold D cy z0 h H → va_S (Aof z0) s.heap H locs → lv_has ls nL (lvl lv) → va_Run p l e R s m args below meth c H locs cells slots mc ms (F0 m pc ls (st0.map toV)) (st.map toV) (QI D cy z0 K a) (Aof z0)) (kk : ∀ (v : Int) (h' : Hp), inR v → K v h' → GW p l e R s m args below meth c D cy z0 nL Q (pc + 3) lv (.inl v :: st) h' (cells + mc) (slots + ms)) : GW p l e R s m args below meth c D cy z0 nL Q pc lv st0 h cells slots := fun H locs ls hH hS hl => by
  refine va_calli (hr H locs ls hH hS hl) hS (fun q _ h => h) (fun q h => h) (fun v u t H1 locs1 ht hvm hw hB hz1 hk1 hS1 => ?_)
  have h1 := kk v.toInt u (inR_of v) hw H1 locs1 ls (ht ▸ hB) hS1 hl
  simpa [toV, i32_of] using h1
theorem g_callJ {K : Int → Hp → Prop} {a : Array Value} {st0 : List LV} (hr : ∀ (H : Heap) (locs : List Loc) (ls : Array Slot), Hold D cy z0 h H → va_S (Aof z0) s.heap H locs → lv_has ls nL (lvl lv) → va_Run p l e R s m args below meth c H locs cells slots mc ms (F0 m pc ls (st0.map toV)) (st.map toV) (QJ D cy z0 K a) (Aof z0)) (kk : ∀ (v : Int) (h' : Hp), inL v → K v h' → GW p l e R s m args below meth c D cy z0 nL Q (pc + 3) lv (.inr (.inl v) :: st) h' (cells + mc) (slots + ms)) : GW p l e R s m args below meth c D cy z0 nL Q pc lv st0 h cells slots := fun H locs ls hH hS hl => by
  refine va_calll (hr H locs ls hH hS hl) hS (fun q _ h => h) (fun q h => h) (fun v u t H1 locs1 ht hvm hw hB hz1 hk1 hS1 => ?_)
  have h1 := kk v.toInt u (inL_of v) hw H1 locs1 ls (ht ▸ hB) hS1 hl
  simpa [toV, i64_of] using h1
theorem g_callR {K : Nat → Hp → Prop} {a : Array Value} {st0 : List LV} (hr : ∀ (H : Heap) (locs : List Loc) (ls : Array Slot), Hold D cy z0 h H → va_S (Aof z0) s.heap H locs → lv_has ls nL (lvl lv) → va_Run p l e R s m args below meth c H locs cells slots mc ms (F0 m pc ls (st0.map toV)) (st.map toV) (QR D cy z0 K a) (Aof z0)) (kk : ∀ (v : Nat) (h' : Hp), K v h' → GW p l e R s m args below meth c D cy z0 nL Q (pc + 3) lv (.inr (.inr v) :: st) h' (cells + mc) (slots + ms)) : GW p l e R s m args below meth c D cy z0 nL Q pc lv st0 h cells slots := fun H locs ls hH hS hl => by
  refine va_callq (hr H locs ls hH hS hl) hS (fun q _ h => h) (fun q h => h) (fun v u t H1 locs1 ht hvm hw hB hz1 hk1 hS1 => ?_)
  have h1 := kk (un v) u hw H1 locs1 ls (ht ▸ hB) hS1 hl
  simpa [toV, rv_un] using h1
theorem g_callV {K : Hp → Prop} {a : Array Value} {st0 : List LV} (hr : ∀ (H : Heap) (locs : List Loc) (ls : Array Slot), Hold D cy z0 h H → va_S (Aof z0) s.heap H locs → lv_has ls nL (lvl lv) → va_Run p l e R s m args below meth c H locs cells slots mc ms (F0 m pc ls (st0.map toV)) (st.map toV) (QV D cy z0 K a) (Aof z0)) (kk : ∀ (h' : Hp), K h' → GW p l e R s m args below meth c D cy z0 nL Q (pc + 3) lv (st) h' (cells + mc) (slots + ms)) : GW p l e R s m args below meth c D cy z0 nL Q pc lv st0 h cells slots := fun H locs ls hH hS hl => by
  refine va_callv (hr H locs ls hH hS hl) hS (fun q _ h => h) (fun q h => h) (fun u t H1 locs1 ht hvm hw hB hz1 hk1 hS1 => ?_)
  exact kk u hw H1 locs1 ls (ht ▸ hB) hS1 hl
theorem g_iret (C : Cx p l R s m args meth c D cy z0 nL cc own w) {K : Int → Hp → Prop} {ty : FieldType} {x : Int} (hr : meth.sig.returnType = some ty) (hn : narrow ty (toV (.inl x)) = toV (.inl x)) (hx : inR x) (hk : K x h) (hc : cells ≤ mc) (hs : slots ≤ ms) (d : decode cc pc = .ok (.ireturn, 1)) : GW p l e R s m args below meth c D cy z0 nL (MQ below (QI D cy z0 K) args s mc ms (Aof z0)) pc lv [.inl x] h cells slots := fun H locs ls hH hS hl => by
  refine W.widen hc hs ?_
  exact W.zret C.1.1 C.1.2.1 hr hn (fun t ht hW => ⟨⟨i32 x, h, rfl, by show K (i32 x).toInt h; rw [i32_toInt hx]; exact hk, by unfold Bh; rw [ht]; exact hH⟩, hS.F ht⟩) hS.2.2 d C.2.2.2.1
theorem g_lret (C : Cx p l R s m args meth c D cy z0 nL cc own w) {K : Int → Hp → Prop} {x : Int} (hr : meth.sig.returnType = some .long) (hx : inL x) (hk : K x h) (hc : cells ≤ mc) (hs : slots ≤ ms) (d : decode cc pc = .ok (.lreturn, 1)) : GW p l e R s m args below meth c D cy z0 nL (MQ below (QJ D cy z0 K) args s mc ms (Aof z0)) pc lv [.inr (.inl x)] h cells slots := fun H locs ls hH hS hl => by
  refine W.widen hc hs ?_
  exact W.lret C.1.1 C.1.2.1 hr (fun t ht hW => ⟨⟨i64 x, h, rfl, by show K (i64 x).toInt h; rw [i64_toInt hx]; exact hk, by unfold Bh; rw [ht]; exact hH⟩, hS.F ht⟩) hS.2.2 d C.2.2.2.1
theorem g_vret (C : Cx p l R s m args meth c D cy z0 nL cc own w) {K : Hp → Prop} (hr : meth.sig.returnType = none) (hk : K h) (hc : cells ≤ mc) (hs : slots ≤ ms) (d : decode cc pc = .ok (.return_, 1)) : GW p l e R s m args below meth c D cy z0 nL (MQ below (QV D cy z0 K) args s mc ms (Aof z0)) pc lv [] h cells slots := fun H locs ls hH hS hl => by
  refine W.widen hc hs ?_
  exact W.vret C.1.1 C.1.2.1 hr (fun t ht hW => ⟨⟨h, rfl, hk, by unfold Bh; rw [ht]; exact hH⟩, hS.F ht⟩) hS.2.2 d C.2.2.2.1
theorem g_aret (C : Cx p l R s m args meth c D cy z0 nL cc own w) {K : Nat → Hp → Prop} {rt : FieldType} {x : Nat} (hr : meth.sig.returnType = some rt) (hrt : (∃ n, rt = .object n) ∨ ∃ t, rt = .array t) (hk : K x h) (hc : cells ≤ mc) (hs : slots ≤ ms) (d : decode cc pc = .ok (.areturn, 1)) : GW p l e R s m args below meth c D cy z0 nL (MQ below (QR D cy z0 K) args s mc ms (Aof z0)) pc lv [.inr (.inr x)] h cells slots := fun H locs ls hH hS hl => by
  refine W.widen hc hs ?_
  exact W.aret C.1.1 C.1.2.1 hr hrt (va_rf_or (opt x)) (fun t ht hW => ⟨⟨opt x, h, rfl, by show K (un (opt x)) h; rw [un_opt]; exact hk, by unfold Bh; rw [ht]; exact hH⟩, hS.F ht⟩) hS.2.2 d C.2.2.2.1
theorem g_oinit (C : Cx p l R s m args meth c D cy z0 nL cc own w) {n0 idx : Nat} (ht : Tg h n0 ≠ 0) (v1 : Cond.methodLink own idx Lib.objectInit ∈ uu) (v2 : Cond.instanceMethod Lib.objectInit ∈ uu) (hf : 1 ≤ R.frames) (hlo : lvn st + 12 ≤ R.locals) (d : decode cc pc = .ok (.invokespecial idx, 3)) (k : GW p l e R s m args below meth c D cy z0 nL Q (pc + 3) lv st h cells slots) : GW p l e R s m args below meth c D cy z0 nL Q pc lv (.inr (.inr n0) :: st) h cells slots := fun H locs ls hH hS hl => by
  obtain ⟨a, L, q, rfl, ha, hL, hP, hD, hq⟩ := pl_at hH ht
  exact r_oinit C.1 v1 v2 kw_oi hl.1 d hf (by rw [catL]; exact hlo) (k H locs ls hH hS hl)
end GC1
