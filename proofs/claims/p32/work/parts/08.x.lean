/-! THROWS: contracts of methods that return or throw NoSuchElementException, and of methods that catch it -/
def nsee : String := "java/util/NoSuchElementException"
def Ey (U : State) : Prop := va_Nw (.castable nsee nsee) U ∧ va_Nw (.declares ⟨"java/lang/RuntimeException", "<init>", "()V"⟩) U ∧ va_Nw (.declares ⟨"java/lang/Exception", "<init>", "()V"⟩) U ∧ va_Nw (.declares ⟨"java/lang/Throwable", "<init>", "()V"⟩) U
theorem Ey.warm {s U : State} (hW : s.WarmedH U.vm) (h : Ey s) : Ey U := ⟨h.1.warmC hW, h.2.1.warmD hW, h.2.2.1.warmD hW, h.2.2.2.warmD hW⟩
theorem Ey.same {U V : State} (h : U.vm = V.vm) (hE : Ey U) : Ey V := ⟨va_Nw.same rfl h hE.1, va_Nw.same rfl h hE.2.1, va_Nw.same rfl h hE.2.2.1, va_Nw.same rfl h hE.2.2.2⟩
def Zs (A : Nat → Prop) (U : State) (H : Heap) : Prop := vx_Zq Bundle.tN "UNASSIGNED_STACK" Bundle.steD A U H ∧ vx_Zq Bundle.tN "SUPPRESSED_SENTINEL" Bundle.listD A U H
theorem Zs.moved {A : Nat → Prop} {u U : State} {H : Heap} (hvm : u.vm.Alike U.vm) (h : Zs A u H) : Zs A U H := ⟨h.1.moved hvm, h.2.moved hvm⟩
theorem Zs.kept {A : Nat → Prop} {U : State} {H H1 : Heap} (h : Zs A U H) (hq : ∀ a : Nat, a < H.size → ¬ A a → H1[a]? = H[a]?) : Zs A U H1 := ⟨h.1.kept hq, h.2.kept hq⟩
theorem Zs.narrow {A B : Nat → Prop} {U : State} {H : Heap} (h : Zs A U H) (hAB : ∀ q, B q → A q) : Zs B U H := ⟨h.1.narrow hAB, h.2.narrow hAB⟩
def IX (D : va_G) (cy : Nat → ClassId) (sz : Nat) (ws : va_W) (U : State) : Prop := Inv D cy sz ws U ∧ Ey U ∧ Zs (va_A ws sz) U U.heap
theorem ix_blind {av : List Value} {D : va_G} {cy : Nat → ClassId} {sz : Nat} {ws : va_W} : FrameBlind (va_Pc av (IX D cy sz ws)) := fun a U g mk q => by
  obtain ⟨q0, hI, hE, hZ⟩ := q
  exact ⟨q0, (inv_blind (av := av) a U g mk ⟨q0, hI⟩).2, Ey.same (V := U.calling g mk a) rfl hE, Zs.moved (U := U.calling g mk a) (Vm.Alike.refl U.vm) hZ⟩
abbrev XQ (A : Nat → Prop) (post : Int32 → Prop) : Array Value → State → Outcome → State → Prop := va_Qi (fun v (_ : Unit) => post v) (fun _ _ => True) A
abbrev XX (A : Nat → Prop) (px : Prop) : String → State → State → Prop := vx_X (fun _ : Unit => px) (fun E _ _ => E = nsee) A
def XI (l : Launch) (D : va_G) (cy : Nat → ClassId) (y : MethodName) (b : ByteArray) (n : Nat) (r : Option FieldType) (fr lo mc ms : Nat) (av : List Value) (ws : va_W) (post : Int32 → Prop) (px : Prop) : Prop :=
  ∀ sz, vx_Met l y (wU y b n r) (rmm fr lo mc ms) (va_Pc av (IX D cy sz ws)) (XQ (va_A ws sz) post) (XX (va_A ws sz) px) mc ms (va_A ws sz)
def wW (y : MethodName) (b : ByteArray) (n : Nat) (r : Option FieldType) (hh : List (Nat × Nat × Nat × Nat)) : List Cond := .codeWith y b n r hh :: uu
def CW (l : Launch) (D : va_G) (cy : Nat → ClassId) (y : MethodName) (b : ByteArray) (n : Nat) (r : Option FieldType) (hh : List (Nat × Nat × Nat × Nat)) (fr lo mc ms : Nat) (av : List Value) (ws : va_W) {S : Type} (post : Int32 → S → Prop) (w1 : S → va_W) : Prop :=
  ∀ sz, Met l y (wW y b n r hh) (rmm fr lo mc ms) (va_Pc av (IX D cy sz ws)) (va_Qi post (Bw D cy (va_A ws sz) w1) (va_A ws sz)) mc ms (va_A ws sz)
theorem gLW {y : MethodName} {b : ByteArray} {n : Nat} {r : Option FieldType} {hh : List (Nat × Nat × Nat × Nat)} {l : List Cond} (h : Cond.codeWith y b n r hh ∈ uu) (hl : ∀ w ∈ l, w ∈ uu) : GoodIn uu (l ++ wW y b n r hh) := by
  have g : ∀ w, w ∈ uu → w ∈ uu ∧ ((w.onTables && w.keeps) = true ∨ ∃ ty, w = .arrayClass ty) := fun w hw => ⟨hw, good_of_word (List.mem_filter.mp hw).2⟩
  intro w hw
  rcases List.mem_append.mp hw with hw | hw
  · exact g w (hl w hw)
  · rcases List.mem_cons.mp hw with rfl | hw
    · exact g _ h
    · exact g w hw
abbrev nms : List String := ["java/lang/RuntimeException", "java/lang/Exception"]
theorem x_in : ∀ w ∈ (vx_at0 "LandSurvey" 168 nsee nms).filter goodWord, w ∈ lw_tbl := by decide +kernel
theorem x_out : ∀ w ∈ (vx_at0 "LandSurvey" 168 nsee nms).filter (fun w => !goodWord w), w ∈ [Cond.castable nsee nsee, Cond.declares ⟨"java/lang/RuntimeException", "<init>", "()V"⟩, Cond.declares ⟨"java/lang/Exception", "<init>", "()V"⟩, Cond.declares ⟨"java/lang/Throwable", "<init>", "()V"⟩] := by decide +kernel
theorem x_good : ∀ w ∈ Cond.classLink "LandSurvey" 166 nsee :: Cond.initialized nsee :: vx_at0 "LandSurvey" 168 nsee nms, vx_ot w = true := by decide +kernel
theorem x_hat {args : Array Value} {s : State} (hts : ∀ w ∈ uu, w.before args s = true) (hE : Ey s) : ∀ w ∈ vx_at0 "LandSurvey" 168 nsee nms, w.before args s = true :=
  vx_hat (fun w hw => hts w (List.mem_filter.mpr ⟨x_in w hw, (List.mem_filter.mp hw).2⟩)) x_out (vx_c (va_Nw.use rfl hE.1) (vx_c (va_Nw.use rfl hE.2.1) (vx_c (va_Nw.use rfl hE.2.2.1) (vx_c (va_Nw.use rfl hE.2.2.2) vx_n))))
section XA
variable {l : Launch} {D : va_G} {cy : Nat → ClassId} {y : MethodName} {b : ByteArray} {n : Nat} {r : Option FieldType} {fr lo mc ms : Nat} {av : List Value} {ws : va_W}
theorem xi_go {post : Int32 → Prop} {px : Prop} (hy : plainName y.cls = true) (hlen : (lg_sl av).length ≤ n)
    (body : ∀ (p : Program) (e : Env) (s : State) (m : MethodId) (below : List Frame) (meth : Method) (c : Code) (ls : Array Slot) (A : Nat → Prop), (∀ q : Nat, s.heap.size ≤ q → A q) → CallFix p m c b n s av.toArray uu y.cls → meth.sig.returnType = r → meth.locks = false → (∀ x ∈ c.exceptionTable.toList, False) → va_P D vwCl ws s.heap → KX D cy s → va_D A ws → Ey s → Zs A s s.heap → lv_has ls n (lv_args 0 av) →
      W p l e (rmm fr lo mc ms) s m av.toArray below meth c s.heap [] 0 0 (vx_MQ below (XQ A post) (XX A px) av.toArray s mc ms A) (F0 m 0 ls [])) : XI l D cy y b n r fr lo mc ms av ws post px := by
  intro sz
  refine vx_ofW (cc := b) (maxL := n) (ret := r) hy rfl ?_
  intro p e s m args below meth c s₁ B hml hT hv
  obtain ⟨rfl, ⟨hsz, hP, hK, hD0⟩, hE, hZ⟩ := hv
  have hts := atoms_spec (ws := wU y b n r) B.pre
  have hown : s.vm.findClass y.cls = some m.cls := findClass_of_methodNamed B.named
  have hl := lv_entry av (n := n) hlen
  rw [lg_entry_eq]
  subst hsz
  exact body p e s m below meth c _ (va_A ws s.heap.size) (fun _ h => Or.inr h) ⟨B.exec, B.bytes, hml, hown, fun w h => hts w (List.mem_cons_of_mem _ h)⟩ B.returns B.notSynchronized hT hP hK (hD0.self (sz := s.heap.size)) hE hZ hl
theorem cw_go {hh : List (Nat × Nat × Nat × Nat)} {S : Type} {post : Int32 → S → Prop} {w1 : S → va_W} (hy : plainName y.cls = true) (hlen : (lg_sl av).length ≤ n)
    (body : ∀ (p : Program) (e : Env) (s : State) (m : MethodId) (below : List Frame) (meth : Method) (c : Code) (ls : Array Slot) (A : Nat → Prop), (∀ q : Nat, s.heap.size ≤ q → A q) → CallFix p m c b n s av.toArray uu y.cls → meth.sig.returnType = r → meth.locks = false → c.exceptionTable.toList = tableOf hh → va_P D vwCl ws s.heap → KX D cy s → va_D A ws → Ey s → Zs A s s.heap → lv_has ls n (lv_args 0 av) →
      W p l e (rmm fr lo mc ms) s m av.toArray below meth c s.heap [] 0 0 (MQ below (va_Qi post (Bw D cy A w1) A) av.toArray s mc ms A) (F0 m 0 ls [])) : CW l D cy y b n r hh fr lo mc ms av ws post w1 := by
  intro sz
  refine va_MetW (cc := b) (maxL := n) (ret := r) (hh := hh) hy rfl ?_
  intro p e s m args below meth c s₁ B hml hv
  obtain ⟨rfl, ⟨hsz, hP, hK, hD0⟩, hE, hZ⟩ := hv
  have hts := atoms_spec (ws := wW y b n r hh) B.pre
  have hown : s.vm.findClass y.cls = some m.cls := findClass_of_methodNamed B.named
  have hTab := vx_table (x := y) B (hts _ List.mem_cons_self)
  have hl := lv_entry av (n := n) hlen
  rw [lg_entry_eq]
  subst hsz
  exact body p e s m below meth c _ (va_A ws s.heap.size) (fun _ h => Or.inr h) ⟨B.exec, B.bytes, hml, hown, fun w h => hts w (List.mem_cons_of_mem _ h)⟩ B.returns B.notSynchronized hTab hP hK (hD0.self (sz := s.heap.size)) hE hZ hl
end XA
section XB
variable {p : Program} {l : Launch} {e : Env} {R : Room} {s : State} {m : MethodId} {args : Array Value} {below : List Frame} {meth : Method} {c : Code} {H : Heap} {locs : List Loc} {cells slots : Nat} {Q : State → Prop}
variable {D : va_G} {cy : Nat → ClassId} {cc : ByteArray} {nL : Nat} {own : String} {pc : Nat} {ls : Array Slot} {mc ms : Nat} {A : Nat → Prop}
variable {y : MethodName} {b : ByteArray} {n : Nat} {r : Option FieldType} {fr lo : Nat} {wc wr ws : va_W} {As rest st : List Value} {idx k a : Nat} {post : Int32 → Prop} {px : Prop}
theorem x_ret {ty : FieldType} {v : Int32} {XC : String → State → State → Prop} (S : CallFix p m c cc nL s args uu own) (hr : meth.sig.returnType = some ty) (hlk : meth.locks = false) (hn : narrow ty (.int v) = .int v) (hS : va_S A s.heap H locs) (hp : post v) (hc : cells ≤ mc) (hs : slots ≤ ms) (d : decode cc pc = .ok (.ireturn, 1)) :
    W p l e R s m args below meth c H locs cells slots (vx_MQ below (XQ A post) XC args s mc ms A) (F0 m pc ls [.int v]) := by
  refine W.widen hc hs (vx_ret ?_)
  exact W.zret S.1 S.2.1 hr hn (fun t ht _ => ⟨⟨v, (), rfl, hp, trivial⟩, hS.F ht⟩) hS.2.2 d hlk
theorem x_throw {Qc : Array Value → State → Outcome → State → Prop} (hst : l.stackTraces = false) (S : CallFix p m c cc nL s args uu "LandSurvey") (v1 : Cond.classLink "LandSurvey" 166 nsee ∈ uu) (v2 : Cond.initialized nsee ∈ uu) (hT : ∀ x ∈ c.exceptionTable.toList, False) (hlk : meth.locks = false) (hE : Ey s) (hZ : Zs A s s.heap) (hS : va_S A s.heap H locs) (hls : ls.size = nL)
    (d0 : decode cc pc = .ok (.new 166, 3)) (d3 : decode cc (pc + 3) = .ok (.dup, 1)) (d4 : decode cc (pc + 4) = .ok (.invokespecial 168, 3)) (d7 : decode cc (pc + 7) = .ok (.athrow, 1)) (hpx : px)
    (hf : 5 < R.frames) (hlo : (rest.map fun v => v.category).sum + 81 ≤ R.locals) (hc1 : cells + 1 ≤ R.cells) (hs1 : slots + 6 ≤ R.slots) (hc : cells + 1 ≤ mc) (hs : slots + 6 ≤ ms) :
    W p l e R s m args below meth c H locs cells slots (vx_MQ below Qc (XX A px) args s mc ms A) (F0 m pc ls rest) := by
  have hts := S.2.2.2.2
  exact vx_throw0 (own := "LandSurvey") (cls := nsee) (names := nms) (A := A) S.1 S.2.1 hst S.2.2.2.1 (by decide +kernel) (by decide +kernel) (hts _ v1) (hts _ v2) (x_hat hts hE) x_good hZ.1 hZ.2 hS (hls.trans S.2.2.1.symm) d0 d3 d4 d7 (fun x hx => absurd (hT x hx) id) hf hlo hc1 hs1 hlk
    (fun t _ h1 h2 => ⟨(), hpx, rfl, Nat.le_trans hS.1 h1, fun q hq hA => (h2 q (Nat.lt_of_lt_of_le hq hS.1)).trans (hS.2.1 q hq hA)⟩) hS.2.2 hc hs
theorem runV_X (S : CallFix p m c cc nL s args uu own) (hM : XI l D cy y b n r fr lo mc ms (.ref a :: As) wc post px) (hK : KX D cy s) (hP : va_P D vwCl ws H) (hD : va_D A ws) (hS : va_S A s.heap H locs) (hA : ∀ q : Nat, s.heap.size ≤ q → A q) (hE : Ey s) (hZ : Zs A s s.heap) (isC : List Nat) (hnd : va_nd isC = true) (hC : isC.map (fun i => ws[i]?) = wc.map some)
    (q0 ci : Nat) {fs : List Value} {T : u_T} {N : Nat} (he : wc[q0]? = some (a, .inr (ci, fs))) (hci : vwCl[ci]? = some (y.cls, T, N)) (v1 : Cond.methodLink own idx y ∈ uu) (v2 : Cond.instanceMethod y ∈ uu) (v3 : Cond.selects y.cls y y ∈ uu) (v4 : Cond.initialized y.cls ∈ uu) (v5 : Cond.code y b n r ∈ uu) (hy : yok y k) (hk : As.length = k)
    (hR : fr + 1 ≤ R.frames ∧ 8 + (n + 11) + lo ≤ R.locals) (hls : ls.size = nL) (hst : st = As.reverse ++ .ref a :: rest) (hcat : (rest.map fun v => v.category).sum ≤ 8) (d : decode cc pc = .ok (.invokevirtual idx, 3)) (hf : cells + mc ≤ R.cells ∧ slots + ms ≤ R.slots) :
    vx_Run p l e R s m args below meth c H locs cells slots mc ms (F0 m pc ls st) rest (XQ (va_A wc H.size) post (Value.ref a :: As).toArray) (XX (va_A wc H.size) px) (va_A wc H.size) := by
  have hPc := hP.sub (ws' := wc) isC (fm_of hC)
  have hDc := hD.sub (ws' := wc) isC hnd hC
  have hFc := va_free hD hS hA isC hC
  exact vx_runV (Ts := uu) (own := own) (C := y.cls) S (hM H.size) (cwV k S.2.2.2.2 (gL v5 (fun w h => by simp only [List.mem_cons, List.not_mem_nil, or_false] at h; rcases h with rfl | rfl | rfl | rfl <;> assumption)) rfl rfl rfl ⟨rfl, hy⟩ hR) ⟨ix_blind, va_recv hK.1 hPc hci he, fun U hU hW => ⟨rfl, ⟨by rw [hU], by rw [hU]; exact hPc, KX.warm hW hK, hDc.weaken (fun _ _ _ _ => trivial)⟩, hE.warm hW, by rw [hU]; exact ((hZ.kept hS.2.1).narrow hFc).moved hW.alike⟩⟩ rfl hk hls hst (lv_room hcat) d hf
theorem call_x {av : Array Value} (hr : vx_Run p l e R s m args below meth c H locs cells slots mc ms (F0 m pc ls st) rest (XQ (va_A wc H.size) post av) (XX (va_A wc H.size) px) (va_A wc H.size)) (hP : va_P D vwCl ws H) (hD : va_D A ws) (hS : va_S A s.heap H locs) (hA : ∀ q : Nat, s.heap.size ≤ q → A q) (isC isR : List Nat) (hC : isC.map (fun i => ws[i]?) = wc.map some) (hR : isR.map (fun i => ws[i]?) = wr.map some) (hn : va_nd isR = true) (hdis : ∀ i ∈ isR, i ∉ isC)
    (kx : ∀ (ce : Cell) (q9 : Addr) (H1 : Heap) (locs1 : List Loc), px → va_P D vwCl wr H1 → va_D A wr → va_S A s.heap H1 locs1 → H1[q9]? = some ce → ce.vm = .none → s.vm.findClass nsee = some ce.cls → vx_W p l e R s m args below meth c H1 locs1 (cells + mc) (slots + ms) Q (F0 m pc ls rest) q9)
    (kk : ∀ (v : Int32) (H1 : Heap) (locs1 : List Loc), post v → va_P D vwCl wr H1 → va_D A wr → va_S A s.heap H1 locs1 → W p l e R s m args below meth c H1 locs1 (cells + mc) (slots + ms) Q (F0 m (pc + 3) ls (.int v :: rest))) : W p l e R s m args below meth c H locs cells slots Q (F0 m pc ls st) := by
  have hFc := va_free hD hS hA isC hC
  have hj : ∀ (H1 : Heap), (∀ q : Nat, q < H.size → ¬ va_A wc H.size q → H1[q]? = H[q]?) → va_P D vwCl wr H1 ∧ va_D A wr := by
    intro H1 h1
    have h2 := va_join (w1 := []) hP hD isC isR hC hR hn hdis h1 hFc (fun k q h => by simp at h) ⟨fun i j p q h => by simp at h, fun k q h => by simp at h⟩
    rw [List.append_nil] at h2
    exact h2
  refine vx_calli hr hS (fun q _ h => hFc q h) hFc (fun q _ h => hFc q h) (fun E ce q9 u t H1 locs1 ht hvm hpx hB hz hk hS1 hce hcv hcl => ?_) (fun v u t H1 locs1 ht hvm hw hB hz hk hS1 => ?_)
  · subst hB
    exact kx ce q9 H1 locs1 hpx (hj H1 hk).1 (hj H1 hk).2 hS1 hce hcv hcl
  · exact kk v H1 locs1 hw (hj H1 hk).1 (hj H1 hk).2 hS1
theorem x_catch {q9 : Addr} {ce : Cell} {a0 a1 a2 : Nat} (S : CallFix p m c cc nL s args uu own) (hTab : c.exceptionTable.toList = tableOf [(a0, a1, a2, 13)]) (hcov : a0 ≤ pc ∧ pc < a1) (v1 : Cond.classLink own 13 nsee ∈ uu) (hE : Ey s) (hce : H[q9]? = some ce) (hcv : ce.vm = .none) (hcl : s.vm.findClass nsee = some ce.cls)
    (kk : W p l e R s m args below meth c H locs cells slots Q (F0 m a2 ls [.ref q9])) : vx_W p l e R s m args below meth c H locs cells slots Q (F0 m pc ls rest) q9 := by
  refine vx_catch (own := own) (name := nsee) (E := nsee) S.2.2.2.1 [] ⟨a0, a1, a2, 13⟩ [] (hTab.trans rfl) (fun z h => by cases h) ?_ (show (13 : Nat) ≠ 0 from by decide) (S.2.2.2.2 _ v1) (va_Nw.use rfl hE.1) hce hcv hcl kk
  simp [covers, hcov.1, hcov.2]
theorem runS_W {hh : List (Nat × Nat × Nat × Nat)} {Qc : Nat → Array Value → State → Outcome → State → Prop} (S : CallFix p m c cc nL s args uu own) (hM : ∀ sz, Met l y (wW y b n r hh) (rmm fr lo mc ms) (va_Pc As (IX D cy sz wc)) (Qc sz) mc ms (va_A wc sz)) (hK : KX D cy s) (hP : va_P D vwCl ws H) (hD : va_D A ws) (hS : va_S A s.heap H locs) (hA : ∀ q : Nat, s.heap.size ≤ q → A q) (hE : Ey s) (hZ : Zs A s s.heap) (isC : List Nat) (hnd : va_nd isC = true) (hC : isC.map (fun i => ws[i]?) = wc.map some)
    (v1 : Cond.methodLink own idx y ∈ uu) (v2 : Cond.static y ∈ uu) (v4 : Cond.initialized y.cls ∈ uu) (v5 : Cond.codeWith y b n r hh ∈ uu) (hy : yok y k) (hk : As.length = k) (hR : fr + 1 ≤ R.frames ∧ 8 + (n + 11) + lo ≤ R.locals) (hls : ls.size = nL) (hst : st = As.reverse ++ rest) (hcat : (rest.map fun v => v.category).sum ≤ 8) (d : decode cc pc = .ok (.invokestatic idx, 3)) (hf : cells + mc ≤ R.cells ∧ slots + ms ≤ R.slots) :
    va_Run p l e R s m args below meth c H locs cells slots mc ms (F0 m pc ls st) rest (Qc H.size As.toArray) (va_A wc H.size) := by
  have hPc := hP.sub (ws' := wc) isC (fm_of hC)
  have hDc := hD.sub (ws' := wc) isC hnd hC
  have hFc := va_free hD hS hA isC hC
  exact vx_runSW (Ts := uu) (own := own) (hh := hh) (bytes := b) (maxL := n) (ret := r) S (hM H.size) (vx_cwSW k S.2.2.2.2 (gLW v5 (fun w h => by simp only [List.mem_cons, List.not_mem_nil, or_false] at h; rcases h with rfl | rfl | rfl <;> assumption)) rfl rfl rfl hy hR) ⟨ix_blind, fun U hU hW => ⟨rfl, ⟨by rw [hU], by rw [hU]; exact hPc, KX.warm hW hK, hDc.weaken (fun _ _ _ _ => trivial)⟩, hE.warm hW, by rw [hU]; exact ((hZ.kept hS.2.1).narrow hFc).moved hW.alike⟩⟩ rfl hk hls hst (lv_room hcat) d hf
end XB
theorem ty_prim {args : Array Value} {s : State} {ty : FieldType} (h : (Cond.arrayClass ty).before args s = true) : ∃ cA : ClassId, ArrOfT s cA ty ∧ s.vm.findClass ("[" ++ ty.toString) = some cA := by
  obtain ⟨c, k, comp, h1, h2, h3⟩ := Cond.arrayClass_spec h
  exact ⟨c, fun n z => ⟨fun k h => (by cases h), k, h2, comp, h3⟩, h1⟩
theorem ty_obj {args : Array Value} {s : State} {C : String} (h : (Cond.arrayOver (.object C)).before args s = true) : ∃ cA : ClassId, ArrOfT s cA (.object C) ∧ va_RA s cA (.object C) := by
  obtain ⟨comp, c, k, h1, h2, h3, h4, h5⟩ := Cond.arrayOver_spec h
  exact ⟨c, fun n z => ⟨fun k h => (by cases h), k, h3, comp, h4⟩, k, comp, h3, h4, h1, h5⟩
