/-! LAYER: contracts in one form, their beginning, end and calls -/
abbrev TY (cy : Nat → ClassId) : List (ClassId × FieldType) := [(cy 0, .int), (cy 1, .boolean), (cy 2, .long), (cy 3, .char), (cy 4, .object "LandSurvey$Sight"), (cy 5, .object "LandSurvey$Break"), (cy 6, .object "LandSurvey$Sheet"), (cy 7, .object "LandSurvey$Ground"), (cy 8, .object "LandSurvey$Rules")]
abbrev rmm (fr lo mc ms : Nat) : Room := { frames := fr, cells := mc, slots := ms, locals := lo }
/-- words that the kit keeps for itself: arrays over classes of this system, links among nest mates -/
def Ex (U : State) : Prop := (va_AO "LandSurvey$Sight" U ∧ va_AO "LandSurvey$Break" U ∧ va_AO "LandSurvey$Sheet" U ∧ va_AO "LandSurvey$Ground" U ∧ va_AO "LandSurvey$Rules" U) ∧ va_Nw (.methodLinkNest "LandSurvey" 28 ⟨"LandSurvey$Reader", "<init>", "()V"⟩ "LandSurvey") U ∧ va_Nw (.methodLinkNest "LandSurvey" 35 ⟨"LandSurvey$RuleBook", "<init>", "()V"⟩ "LandSurvey") U ∧ va_Nw (.methodLinkNest "LandSurvey$Search" 11 ⟨"LandSurvey$Slopes", "<init>", "()V"⟩ "LandSurvey") U
theorem Ex.warm {s U : State} (hW : s.WarmedH U.vm) (h : Ex s) : Ex U := by
  obtain ⟨⟨a1, a2, a3, a4, a5⟩, b1, b2, b3⟩ := h
  exact ⟨⟨a1.moved hW.alike, a2.moved hW.alike, a3.moved hW.alike, a4.moved hW.alike, a5.moved hW.alike⟩, b1.warmM hW, b2.warmM hW, b3.warmM hW⟩
theorem Ex.same {U V : State} (h : U.vm = V.vm) (hE : Ex U) : Ex V := by
  obtain ⟨⟨a1, a2, a3, a4, a5⟩, b1, b2, b3⟩ := hE
  have hA : U.vm.Alike V.vm := h ▸ Vm.Alike.refl U.vm
  exact ⟨⟨a1.moved hA, a2.moved hA, a3.moved hA, a4.moved hA, a5.moved hA⟩, va_Nw.same rfl h b1, va_Nw.same rfl h b2, va_Nw.same rfl h b3⟩
abbrev KX (D : va_G) (cy : Nat → ClassId) (U : State) : Prop := va_K D vwCl (TY cy) U ∧ Ex U
theorem KX.warm {D : va_G} {cy : Nat → ClassId} {s U : State} (hW : s.WarmedH U.vm) (h : KX D cy s) : KX D cy U := ⟨va_K.moved hW.alike h.1, h.2.warm hW⟩
def Inv (D : va_G) (cy : Nat → ClassId) (sz : Nat) (ws : va_W) (U : State) : Prop := U.heap.size = sz ∧ va_P D vwCl ws U.heap ∧ KX D cy U ∧ va_D (fun _ => True) ws
def Inr (D : va_G) (cy : Nat → ClassId) (ws : va_W) (U : State) : Prop := va_P D vwCl ws U.heap ∧ KX D cy U
def Bw (D : va_G) (cy : Nat → ClassId) (A : Nat → Prop) {S : Type} (w1 : S → va_W) : S → State → Prop := fun u t => va_P D vwCl (w1 u) t.heap ∧ va_K D vwCl (TY cy) t ∧ va_D A (w1 u)
def CI (l : Launch) (D : va_G) (cy : Nat → ClassId) (y : MethodName) (b : ByteArray) (n : Nat) (r : Option FieldType) (fr lo mc ms : Nat) (av : List Value) (ws : va_W) {S : Type} (post : Int32 → S → Prop) (w1 : S → va_W) : Prop :=
  ∀ sz, Met l y (wU y b n r) (rmm fr lo mc ms) (va_Pc av (Inv D cy sz ws)) (va_Qi post (Bw D cy (va_A ws sz) w1) (va_A ws sz)) mc ms (va_A ws sz)
def CV (l : Launch) (D : va_G) (cy : Nat → ClassId) (y : MethodName) (b : ByteArray) (n : Nat) (r : Option FieldType) (fr lo mc ms : Nat) (av : List Value) (ws : va_W) {S : Type} (post : S → Prop) (w1 : S → va_W) : Prop :=
  ∀ sz, Met l y (wU y b n r) (rmm fr lo mc ms) (va_Pc av (Inv D cy sz ws)) (va_Qv post (Bw D cy (va_A ws sz) w1) (va_A ws sz)) mc ms (va_A ws sz)
def CQ (l : Launch) (D : va_G) (cy : Nat → ClassId) (y : MethodName) (b : ByteArray) (n : Nat) (r : Option FieldType) (fr lo mc ms : Nat) (av : List Value) (ws : va_W) {S : Type} (post : Option Nat → S → Prop) (w1 : S → va_W) : Prop :=
  ∀ sz, Met l y (wU y b n r) (rmm fr lo mc ms) (va_Pc av (Inv D cy sz ws)) (va_Qq post (Bw D cy (va_A ws sz) w1) (va_A ws sz)) mc ms (va_A ws sz)
def CL (l : Launch) (D : va_G) (cy : Nat → ClassId) (y : MethodName) (b : ByteArray) (n : Nat) (r : Option FieldType) (fr lo mc ms : Nat) (av : List Value) (ws : va_W) {S : Type} (post : Int64 → S → Prop) (w1 : S → va_W) : Prop :=
  ∀ sz, Met l y (wU y b n r) (rmm fr lo mc ms) (va_Pc av (Inv D cy sz ws)) (va_Ql post (Bw D cy (va_A ws sz) w1) (va_A ws sz)) mc ms (va_A ws sz)
def RI (l : Launch) (D : va_G) (cy : Nat → ClassId) (y : MethodName) (b : ByteArray) (n : Nat) (r : Option FieldType) (fr lo : Nat) (av : List Value) (ws : va_W) (post : Int32 → Prop) : Prop :=
  Met l y (wU y b n r) (rmm fr lo 0 0) (va_Pc av (Inr D cy ws)) (vp_Si post) 0 0 (fun _ => False)
def RQ (l : Launch) (D : va_G) (cy : Nat → ClassId) (y : MethodName) (b : ByteArray) (n : Nat) (r : Option FieldType) (fr lo : Nat) (av : List Value) (ws : va_W) (post : Option Nat → Prop) : Prop :=
  Met l y (wU y b n r) (rmm fr lo 0 0) (va_Pc av (Inr D cy ws)) (va_Sq post) 0 0 (fun _ => False)
section LayA
variable {l : Launch} {D : va_G} {cy : Nat → ClassId} {y : MethodName} {b : ByteArray} {n : Nat} {r : Option FieldType} {fr lo mc ms : Nat} {av : List Value} {ws : va_W}
theorem met_go {Qc : Nat → Array Value → State → Outcome → State → Prop} (hy : plainName y.cls = true) (hlen : (lg_sl av).length ≤ n) (sz : Nat)
    (body : ∀ (p : Program) (e : Env) (s : State) (m : MethodId) (below : List Frame) (meth : Method) (c : Code) (ls : Array Slot), s.heap.size = sz → CallFix p m c b n s av.toArray uu y.cls → meth.sig.returnType = r → meth.locks = false → meth.name = y.name → va_P D vwCl ws s.heap → KX D cy s → va_D (va_A ws s.heap.size) ws → lv_has ls n (lv_args 0 av) →
      W p l e (rmm fr lo mc ms) s m av.toArray below meth c s.heap [] 0 0 (MQ below (Qc s.heap.size) av.toArray s mc ms (va_A ws s.heap.size)) (F0 m 0 ls [])) :
    Met l y (wU y b n r) (rmm fr lo mc ms) (va_Pc av (Inv D cy sz ws)) (Qc sz) mc ms (va_A ws sz) := by
  refine Met.ofW (cc := b) (maxL := n) (ret := r) hy rfl ?_
  intro p e s m args below meth c s₁ B hml hv
  obtain ⟨rfl, hsz, hP, hK, hD0⟩ := hv
  have hts := atoms_spec (ws := wU y b n r) B.pre
  have hown : s.vm.findClass y.cls = some m.cls := findClass_of_methodNamed B.named
  have hin : meth.name = y.name := (name_of_methodNamed B.named B.method).1
  have hl := lv_entry av (n := n) hlen
  rw [lg_entry_eq]
  have h9 := body p e s m below meth c _ hsz ⟨B.exec, B.bytes, hml, hown, fun w h => hts w (List.mem_cons_of_mem _ h)⟩ B.returns B.notSynchronized hin hP hK (hD0.self (sz := s.heap.size)) hl
  rw [hsz] at h9
  exact h9
theorem metr_go {Qc : Array Value → State → Outcome → State → Prop} (hy : plainName y.cls = true) (hlen : (lg_sl av).length ≤ n)
    (body : ∀ (p : Program) (e : Env) (s : State) (m : MethodId) (below : List Frame) (meth : Method) (c : Code) (ls : Array Slot), CallFix p m c b n s av.toArray uu y.cls → meth.sig.returnType = r → meth.locks = false → va_P D vwCl ws s.heap → KX D cy s → lv_has ls n (lv_args 0 av) →
      W p l e (rmm fr lo 0 0) s m av.toArray below meth c s.heap [] 0 0 (MQ below Qc av.toArray s 0 0 (fun _ => False)) (F0 m 0 ls [])) :
    Met l y (wU y b n r) (rmm fr lo 0 0) (va_Pc av (Inr D cy ws)) Qc 0 0 (fun _ => False) := by
  refine Met.ofW (cc := b) (maxL := n) (ret := r) hy rfl ?_
  intro p e s m args below meth c s₁ B hml hv
  obtain ⟨rfl, hP, hK⟩ := hv
  have hts := atoms_spec (ws := wU y b n r) B.pre
  have hown : s.vm.findClass y.cls = some m.cls := findClass_of_methodNamed B.named
  have hl := lv_entry av (n := n) hlen
  rw [lg_entry_eq]
  exact body p e s m below meth c _ ⟨B.exec, B.bytes, hml, hown, fun w h => hts w (List.mem_cons_of_mem _ h)⟩ B.returns B.notSynchronized hP hK hl
theorem ci_go {S : Type} {post : Int32 → S → Prop} {w1 : S → va_W} (hy : plainName y.cls = true) (hlen : (lg_sl av).length ≤ n)
    (body : ∀ (p : Program) (e : Env) (s : State) (m : MethodId) (below : List Frame) (meth : Method) (c : Code) (ls : Array Slot) (A : Nat → Prop), (∀ q : Nat, s.heap.size ≤ q → A q) → CallFix p m c b n s av.toArray uu y.cls → meth.sig.returnType = r → meth.locks = false → meth.name = y.name → va_P D vwCl ws s.heap → KX D cy s → va_D A ws → lv_has ls n (lv_args 0 av) →
      W p l e (rmm fr lo mc ms) s m av.toArray below meth c s.heap [] 0 0 (MQ below (va_Qi post (Bw D cy A w1) A) av.toArray s mc ms A) (F0 m 0 ls [])) : CI l D cy y b n r fr lo mc ms av ws post w1 :=
  fun sz => met_go (Qc := fun z => va_Qi post (Bw D cy (va_A ws z) w1) (va_A ws z)) hy hlen sz (fun p e s m below meth c ls _ S hr hk hn hP hK hD hl => body p e s m below meth c ls (va_A ws s.heap.size) (fun _ h => Or.inr h) S hr hk hn hP hK hD hl)
theorem cv_go {S : Type} {post : S → Prop} {w1 : S → va_W} (hy : plainName y.cls = true) (hlen : (lg_sl av).length ≤ n)
    (body : ∀ (p : Program) (e : Env) (s : State) (m : MethodId) (below : List Frame) (meth : Method) (c : Code) (ls : Array Slot) (A : Nat → Prop), (∀ q : Nat, s.heap.size ≤ q → A q) → CallFix p m c b n s av.toArray uu y.cls → meth.sig.returnType = r → meth.locks = false → meth.name = y.name → va_P D vwCl ws s.heap → KX D cy s → va_D A ws → lv_has ls n (lv_args 0 av) →
      W p l e (rmm fr lo mc ms) s m av.toArray below meth c s.heap [] 0 0 (MQ below (va_Qv post (Bw D cy A w1) A) av.toArray s mc ms A) (F0 m 0 ls [])) : CV l D cy y b n r fr lo mc ms av ws post w1 :=
  fun sz => met_go (Qc := fun z => va_Qv post (Bw D cy (va_A ws z) w1) (va_A ws z)) hy hlen sz (fun p e s m below meth c ls _ S hr hk hn hP hK hD hl => body p e s m below meth c ls (va_A ws s.heap.size) (fun _ h => Or.inr h) S hr hk hn hP hK hD hl)
theorem cq_go {S : Type} {post : Option Nat → S → Prop} {w1 : S → va_W} (hy : plainName y.cls = true) (hlen : (lg_sl av).length ≤ n)
    (body : ∀ (p : Program) (e : Env) (s : State) (m : MethodId) (below : List Frame) (meth : Method) (c : Code) (ls : Array Slot) (A : Nat → Prop), (∀ q : Nat, s.heap.size ≤ q → A q) → CallFix p m c b n s av.toArray uu y.cls → meth.sig.returnType = r → meth.locks = false → meth.name = y.name → va_P D vwCl ws s.heap → KX D cy s → va_D A ws → lv_has ls n (lv_args 0 av) →
      W p l e (rmm fr lo mc ms) s m av.toArray below meth c s.heap [] 0 0 (MQ below (va_Qq post (Bw D cy A w1) A) av.toArray s mc ms A) (F0 m 0 ls [])) : CQ l D cy y b n r fr lo mc ms av ws post w1 :=
  fun sz => met_go (Qc := fun z => va_Qq post (Bw D cy (va_A ws z) w1) (va_A ws z)) hy hlen sz (fun p e s m below meth c ls _ S hr hk hn hP hK hD hl => body p e s m below meth c ls (va_A ws s.heap.size) (fun _ h => Or.inr h) S hr hk hn hP hK hD hl)
theorem cl_go {S : Type} {post : Int64 → S → Prop} {w1 : S → va_W} (hy : plainName y.cls = true) (hlen : (lg_sl av).length ≤ n)
    (body : ∀ (p : Program) (e : Env) (s : State) (m : MethodId) (below : List Frame) (meth : Method) (c : Code) (ls : Array Slot) (A : Nat → Prop), (∀ q : Nat, s.heap.size ≤ q → A q) → CallFix p m c b n s av.toArray uu y.cls → meth.sig.returnType = r → meth.locks = false → meth.name = y.name → va_P D vwCl ws s.heap → KX D cy s → va_D A ws → lv_has ls n (lv_args 0 av) →
      W p l e (rmm fr lo mc ms) s m av.toArray below meth c s.heap [] 0 0 (MQ below (va_Ql post (Bw D cy A w1) A) av.toArray s mc ms A) (F0 m 0 ls [])) : CL l D cy y b n r fr lo mc ms av ws post w1 :=
  fun sz => met_go (Qc := fun z => va_Ql post (Bw D cy (va_A ws z) w1) (va_A ws z)) hy hlen sz (fun p e s m below meth c ls _ S hr hk hn hP hK hD hl => body p e s m below meth c ls (va_A ws s.heap.size) (fun _ h => Or.inr h) S hr hk hn hP hK hD hl)
end LayA
section LayB
variable {p : Program} {l : Launch} {e : Env} {R : Room} {s : State} {m : MethodId} {args : Array Value} {below : List Frame} {meth : Method} {c : Code} {H : Heap} {locs : List Loc} {cells slots : Nat} {Q : State → Prop}
variable {D : va_G} {cy : Nat → ClassId} {cc : ByteArray} {nL : Nat} {own : String} {pc : Nat} {ls : Array Slot} {mc ms : Nat} {A : Nat → Prop} {Su : Type} {w1 : Su → va_W} {u : Su}
-- ends
theorem ci_ret {post : Int32 → Su → Prop} {ty : FieldType} {v : Int32} (S : CallFix p m c cc nL s args uu own) (hr : meth.sig.returnType = some ty) (hlk : meth.locks = false) (hn : narrow ty (.int v) = .int v) (hK : KX D cy s) (hP : va_P D vwCl (w1 u) H) (hD : va_D A (w1 u)) (hS : va_S A s.heap H locs) (hp : post v u) (hc : cells ≤ mc) (hs : slots ≤ ms) (d : decode cc pc = .ok (.ireturn, 1)) :
    W p l e R s m args below meth c H locs cells slots (MQ below (va_Qi post (Bw D cy A w1) A) args s mc ms A) (F0 m pc ls [.int v]) := by
  refine W.widen hc hs ?_
  exact W.zret S.1 S.2.1 hr hn (fun t ht hW => ⟨⟨v, u, rfl, hp, by rw [ht]; exact hP, va_K.moved hW.alike hK.1, hD⟩, hS.F ht⟩) hS.2.2 d hlk
theorem cv_ret {post : Su → Prop} (S : CallFix p m c cc nL s args uu own) (hr : meth.sig.returnType = none) (hlk : meth.locks = false) (hK : KX D cy s) (hP : va_P D vwCl (w1 u) H) (hD : va_D A (w1 u)) (hS : va_S A s.heap H locs) (hp : post u) (hc : cells ≤ mc) (hs : slots ≤ ms) (d : decode cc pc = .ok (.return_, 1)) :
    W p l e R s m args below meth c H locs cells slots (MQ below (va_Qv post (Bw D cy A w1) A) args s mc ms A) (F0 m pc ls []) := by
  refine W.widen hc hs ?_
  exact W.vret S.1 S.2.1 hr (fun t ht hW => ⟨⟨u, rfl, hp, by rw [ht]; exact hP, va_K.moved hW.alike hK.1, hD⟩, hS.F ht⟩) hS.2.2 d hlk
theorem cl_ret {post : Int64 → Su → Prop} {v : Int64} (S : CallFix p m c cc nL s args uu own) (hr : meth.sig.returnType = some .long) (hlk : meth.locks = false) (hK : KX D cy s) (hP : va_P D vwCl (w1 u) H) (hD : va_D A (w1 u)) (hS : va_S A s.heap H locs) (hp : post v u) (hc : cells ≤ mc) (hs : slots ≤ ms) (d : decode cc pc = .ok (.lreturn, 1)) :
    W p l e R s m args below meth c H locs cells slots (MQ below (va_Ql post (Bw D cy A w1) A) args s mc ms A) (F0 m pc ls [.long v]) := by
  refine W.widen hc hs ?_
  exact W.lret S.1 S.2.1 hr (fun t ht hW => ⟨⟨v, u, rfl, hp, by rw [ht]; exact hP, va_K.moved hW.alike hK.1, hD⟩, hS.F ht⟩) hS.2.2 d hlk
theorem cq_ret {post : Option Nat → Su → Prop} {rt : FieldType} {v : Option Nat} {v0 : Value} (hv0 : v0 = va_rf v) (S : CallFix p m c cc nL s args uu own) (hr : meth.sig.returnType = some rt) (hlk : meth.locks = false) (hrt : (∃ n, rt = .object n) ∨ ∃ t, rt = .array t) (hK : KX D cy s) (hP : va_P D vwCl (w1 u) H) (hD : va_D A (w1 u)) (hS : va_S A s.heap H locs) (hp : post v u) (hc : cells ≤ mc) (hs : slots ≤ ms) (d : decode cc pc = .ok (.areturn, 1)) :
    W p l e R s m args below meth c H locs cells slots (MQ below (va_Qq post (Bw D cy A w1) A) args s mc ms A) (F0 m pc ls [v0]) := by
  subst hv0
  refine W.widen hc hs ?_
  exact W.aret S.1 S.2.1 hr hrt (by cases v <;> simp [va_rf]) (fun t ht hW => ⟨⟨v, u, rfl, hp, by rw [ht]; exact hP, va_K.moved hW.alike hK.1, hD⟩, hS.F ht⟩) hS.2.2 d hlk
theorem ri_ret {post : Int32 → Prop} {ty : FieldType} {v : Int32} (S : CallFix p m c cc nL s args uu own) (hr : meth.sig.returnType = some ty) (hlk : meth.locks = false) (hn : narrow ty (.int v) = .int v) (hp : post v) (d : decode cc pc = .ok (.ireturn, 1)) :
    W p l e R s m args below meth c s.heap [] 0 0 (MQ below (vp_Si post) args s 0 0 (fun _ => False)) (F0 m pc ls [.int v]) :=
  W.zret S.1 S.2.1 hr hn (fun t ht _ => ⟨v, rfl, hp, ht⟩) (fun _ h => by cases h) d hlk
theorem rq_ret {post : Option Nat → Prop} {rt : FieldType} {v : Option Nat} {v0 : Value} (hv0 : v0 = va_rf v) (S : CallFix p m c cc nL s args uu own) (hr : meth.sig.returnType = some rt) (hlk : meth.locks = false) (hrt : (∃ n, rt = .object n) ∨ ∃ t, rt = .array t) (hp : post v) (d : decode cc pc = .ok (.areturn, 1)) :
    W p l e R s m args below meth c s.heap [] 0 0 (MQ below (va_Sq post) args s 0 0 (fun _ => False)) (F0 m pc ls [v0]) := by
  subst hv0
  exact W.aret S.1 S.2.1 hr hrt (by cases v <;> simp [va_rf]) (fun t ht _ => ⟨v, rfl, hp, ht⟩) (fun _ h => by cases h) d hlk
end LayB
