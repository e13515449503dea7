/-! SIGNS: a long's bytes, by either shift, and how many of them are signs -/
def byC (v : Int64) (sh : Nat) : Int32 := ((v.toUInt64 >>> ((nI sh).toInt64.toUInt64 &&& Int64.toUInt64 63)).toInt64).toInt32 &&& 255
def byM (v : Int64) (sh : Nat) : Int32 := (v >>> ((nI sh).toInt64 &&& 63)).toInt32 &&& 255
theorem sh_u : ∀ k, k < 64 → ((nI k).toInt64.toUInt64 &&& Int64.toUInt64 63) = UInt64.ofNat k := by decide +kernel
theorem sh_i : ∀ k, k < 64 → ((nI k).toInt64 &&& 63) = Int64.ofNat k := by decide +kernel
theorem sh_s : ∀ k, k < 64 → ((Int64.ofNat k).toBitVec.smod 64).toNat = k := by decide +kernel
theorem sh_t : ∀ k, k < 64 → ((UInt64.ofNat k).toBitVec % 64).toNat = k := by decide +kernel
theorem m255 : ∀ i, i < 32 → (255 : Int32).toBitVec.getLsbD i = decide (i < 8) := by decide +kernel
theorem by_eq (v : Int64) {sh : Nat} (h : sh ≤ 56) : byM v sh = byC v sh := by
  unfold byM byC
  rw [sh_u sh (by omega), sh_i sh (by omega)]
  apply Int32.toBitVec_inj.mp
  apply BitVec.eq_of_getLsbD_eq
  intro i hi
  have hs := sh_s sh (by omega)
  have ht := sh_t sh (by omega)
  rw [Int32.toBitVec_and, Int32.toBitVec_and, BitVec.getLsbD_and, BitVec.getLsbD_and, m255 i hi]
  by_cases h8 : i < 8
  · simp only [h8, decide_true, Bool.and_true]
    rw [Int64.toBitVec_toInt32, Int64.toBitVec_toInt32, BitVec.getLsbD_signExtend, BitVec.getLsbD_signExtend]
    have e1 : i < 64 := by omega
    have e2 : sh + i < 64 := by omega
    simp [hi, e1, Int64.toBitVec_shiftRight, BitVec.sshiftRight_eq', BitVec.getLsbD_sshiftRight, hs, e2, UInt64.toBitVec_shiftRight, BitVec.ushiftRight_eq', ht, BitVec.getLsbD_ushiftRight]
    have hs2 : ((BitVec.ofNat 64 sh).smod 64#64).toNat = sh := hs
    rw [hs2, ← BitVec.getLsbD_eq_getElem, BitVec.getLsbD_sshiftRight, Nat.mod_eq_of_lt (by omega)]
    have e3 : ¬ 64 ≤ i := by omega
    simp [e3, e2]
  · simp [h8]
def okB (b : Int32) : Prop := b.toInt = 10 ∨ (32 ≤ b.toInt ∧ b.toInt ≤ 126)
def cnt8 (v : Int64) : Nat → Nat
  | 0 => 0
  | k + 1 => cnt8 v k + (if (byC v (56 - 8 * k)).toInt = 10 ∨ (32 ≤ (byC v (56 - 8 * k)).toInt ∧ (byC v (56 - 8 * k)).toInt ≤ 126) then 1 else 0)
theorem cnt8_le (v : Int64) : ∀ k, cnt8 v k ≤ k
  | 0 => Nat.le_refl 0
  | k + 1 => by
    have h := cnt8_le v k
    show cnt8 v k + _ ≤ k + 1
    split <;> omega
theorem cnt8_yes {v : Int64} {k : Nat} (h : (byC v (56 - 8 * k)).toInt = 10 ∨ (32 ≤ (byC v (56 - 8 * k)).toInt ∧ (byC v (56 - 8 * k)).toInt ≤ 126)) : cnt8 v (k + 1) = cnt8 v k + 1 := by
  show cnt8 v k + _ = _
  rw [if_pos h]
theorem cnt8_no {v : Int64} {k : Nat} (h : ¬ ((byC v (56 - 8 * k)).toInt = 10 ∨ (32 ≤ (byC v (56 - 8 * k)).toInt ∧ (byC v (56 - 8 * k)).toInt ≤ 126))) : cnt8 v (k + 1) = cnt8 v k := by
  show cnt8 v k + _ = _
  rw [if_neg h]; rfl
theorem m8 {a : Nat} (h : 8 ≤ a) : nI a + (-8) = nI (a - 8) := by
  have e : nI a - nI 8 = nI (a - 8) := pk_sub h
  rw [← e]
  show nI a + (-8) = nI a - 8
  exact (Int32.sub_eq_add_neg _ _).symm
theorem zbool {p : Int32} {z : Int} (h : p.toInt = z) (hz : z = 0 ∨ z = 1) : narrow .boolean (.int p) = .int p ∧ fits .boolean (.int p) = true := by
  rcases hz with hz | hz
  · have e : p = 0 := Int32.toInt_inj.mp (by rw [h, hz]; rfl)
    subst e
    decide
  · have e : p = 1 := Int32.toInt_inj.mp (by rw [h, hz]; rfl)
    subst e
    decide
theorem r_mmin {p : Program} {l : Launch} {e : Env} {R : Room} {s : State} {m : MethodId} {args : Array Value} {below : List Frame} {meth : Method} {c : Code} {H : Heap} {locs : List Loc} {cells slots : Nat} {Q : State → Prop} {cc : ByteArray} {nL : Nat} {own : String} {pc : Nat} {ls : Array Slot} {rest : List Value} (S : CallFix p m c cc nL s args uu own) (hls : ls.size = nL) {index : Nat} (v1 : Cond.methodLink own index Lib.Math.min.name ∈ uu) (v2 : Cond.static Lib.Math.min.name ∈ uu) (v3 : Cond.initialized "java/lang/Math" ∈ uu) (v4 : Cond.code Lib.Math.min.name Lib.Math.min.code 2 (some .int) ∈ uu)
    (hframes : 1 ≤ R.frames) (hlocals : (rest.map fun v => v.category).sum + 13 ≤ R.locals) (hc : cells ≤ R.cells) (hs : slots ≤ R.slots) {x y v : Int32} (d : decode cc pc = .ok (.invokestatic index, 3)) (hv : (if y < x then y else x) = v)
    (kk : W p l e R s m args below meth c H locs cells slots Q (F0 m (pc + 3) ls (.int v :: rest))) : W p l e R s m args below meth c H locs cells slots Q (F0 m pc ls (.int y :: .int x :: rest)) :=
  va_mmin S.1 S.2.1 (S.2.2.1.trans hls.symm) S.2.2.2.1 (S.2.2.2.2 _ v1) (S.2.2.2.2 _ v2) (S.2.2.2.2 _ v3) (S.2.2.2.2 _ v4) hframes hlocals hc hs d (hv ▸ kk)
def RV (l : Launch) (D : va_G) (cy : Nat → ClassId) (y : MethodName) (b : ByteArray) (n : Nat) (r : Option FieldType) (fr lo : Nat) (av : List Value) (ws : va_W) (post : Unit → Prop) : Prop :=
  Met l y (wU y b n r) (rmm fr lo 0 0) (va_Pc av (Inr D cy ws)) (va_Sv post) 0 0 (fun _ => False)
section RowV
variable {p : Program} {l : Launch} {e : Env} {R : Room} {s : State} {m : MethodId} {args : Array Value} {below : List Frame} {meth : Method} {c : Code} {H : Heap} {locs : List Loc} {cells slots : Nat} {Q : State → Prop}
variable {cc : ByteArray} {nL : Nat} {own : String} {pc : Nat} {ls : Array Slot} {rest st : List Value}
theorem rv_ret {post : Unit → Prop} (S : CallFix p m c cc nL s args uu own) (hr : meth.sig.returnType = none) (hlk : meth.locks = false) (hp : post ()) (d : decode cc pc = .ok (.return_, 1)) :
    W p l e R s m args below meth c s.heap [] 0 0 (MQ below (va_Sv post) args s 0 0 (fun _ => False)) (F0 m pc ls []) :=
  W.vret S.1 S.2.1 hr (fun t ht _ => ⟨rfl, hp, ht⟩) (fun _ h => by cases h) d hlk
theorem call_rv {post : Unit → Prop} {av : Array Value} (hr : va_Run p l e R s m args below meth c H locs cells slots 0 0 (F0 m pc ls st) rest (va_Sv post av) (fun _ => False)) (kk : post () → W p l e R s m args below meth c H locs cells slots Q (F0 m (pc + 3) ls rest)) : W p l e R s m args below meth c H locs cells slots Q (F0 m pc ls st) := va_csv hr.run kk
end RowV
section RowF
variable {l : Launch} {D : va_G} {cy : Nat → ClassId} {y : MethodName} {b : ByteArray} {n : Nat} {r : Option FieldType} {fr lo : Nat} {av : List Value} {ws : va_W}
theorem metf_go {Qc : Array Value → State → Outcome → State → Prop} (hy : plainFor y = true) (hlen : (lg_sl av).length ≤ n)
    (body : ∀ (p : Program) (e : Env) (s : State) (m : MethodId) (below : List Frame) (meth : Method) (c : Code) (ls : Array Slot), CallFix p m c b n s av.toArray uu y.cls → meth.sig.returnType = r → meth.locks = false → va_P D vwCl ws s.heap → KX D cy s → lv_has ls n (lv_args 0 av) →
      W p l e (rmm fr lo 0 0) s m av.toArray below meth c s.heap [] 0 0 (MQ below Qc av.toArray s 0 0 (fun _ => False)) (F0 m 0 ls [])) :
    Met l y (wU y b n r) (rmm fr lo 0 0) (va_Pc av (Inr D cy ws)) Qc 0 0 (fun _ => False) := by
  refine va_MetF (cc := b) (maxL := n) (ret := r) hy rfl ?_
  intro p e s m args below meth c s₁ B hml hv
  obtain ⟨rfl, hP, hK⟩ := hv
  have hts := atoms_spec (ws := wU y b n r) B.pre
  have hown : s.vm.findClass y.cls = some m.cls := findClass_of_methodNamed B.named
  have hl := lv_entry av (n := n) hlen
  rw [lg_entry_eq]
  exact body p e s m below meth c _ ⟨B.exec, B.bytes, hml, hown, fun w h => hts w (List.mem_cons_of_mem _ h)⟩ B.returns B.notSynchronized hP hK hl
end RowF
