/-! LW: what the law needs of the script and at its end -/
theorem XInv_rt {h h1 : Hp} {x n t : Nat} (hh : rt h n t = h1) (ht : ¬ t = 2006 ∧ ¬ t = 1006) (p : XInv h x) : XInv h1 x := by
  obtain ⟨p1, p2, p3, p4, p5, p6, p7, p8, p9, p10, p11⟩ := p
  have q := ND_rt2 p11 hh ht
  subst hh
  exact ⟨p1, p2, p3, p4, p5, p6, p7, p8, p9, p10, q⟩
theorem MInv_rt {h h1 : Hp} {m n t : Nat} (hh : rt h n t = h1) (p : MInv h m) : MInv h1 m := by subst hh; exact p
theorem ar_99102 : ¬ 99102 % 1000 < 100 := by decide
theorem nn_99102 : ∀ j, (rE 99102 j).2.2 = false := nn_of (by decide +kernel)
theorem rI_99102_0 : rI 99102 0 = (-2147483648, 2147483647, false) := by decide +kernel
def sx (xs : Nat → Int32) (i : Int) : Int := (xs i.toNat).toInt
theorem i32_nat {L : Nat} (hL : L < 2147483648) : i32 (L : Int) = Int32.ofNat L := by
  apply Int32.toInt_inj.mp
  rw [i32_toInt (by omega)]
  exact (nI_toInt (by omega)).symm
def lw_Q (_ : Array Value) (s : State) (o : Outcome) (t : State) : Prop := o = .returned (some (.int 1)) ∧ Framed s o t [] 601024 7293034
def lw_Z (below : List Frame) (a : Array Value) (s : State) : State → Prop := fun t => ∃ o, t.status = .running ∧ Ended t below o ∧ lw_Q a s o t
theorem lw_ret {p : Program} {l : Launch} {e : Env} {s : State} {m : MethodId} {below : List Frame} {meth : Method} {c : Code} {b : Nat} (hx : p.tables.exec = Jvm.exec) (hb : c.code = code) (hr : meth.sig.returnType = ret) (hlocks : meth.locks = false) {pc : Nat} {H : Heap} {ls : Array Slot} (hdg : decode code pc = .ok (.ireturn, 1)) : W p l e room_1 s m #[Value.ref b] below meth c H [] 601024 7293034 (lw_Z below #[Value.ref b] s) (F0 m pc ls [.int 1]) := by
  intro T hT X
  obtain ⟨fs, hret, hrun, hended, hW, hframe⟩ := X.leave (v := some (.int 1)) (hlocks := hlocks) (fun h => by rw [hr] at h; cases h)
  have hmeth' : T.vm.method? m = some meth := X.method'
  refine ⟨T.setFrames fs, ?_, .returned (some (.int 1)), hrun, hended, rfl, ⟨_, rfl⟩, hW, hframe⟩
  jvm_step X.here [X.here.top, hx, hb, hdg, hmeth', hr, ret, narrow_b1]
  (try refine ⟨rfl, ?_⟩); (try refine ⟨rfl, ?_⟩)
  first | (intro acts; rw [hret _ acts rfl rfl rfl]) | rw [hret _ _ rfl rfl rfl]
  exact Steps.refl _
section LW1
variable {p : Program} {l : Launch} {e : Env} {R : Room} {s : State} {m : MethodId} {args : Array Value} {below : List Frame} {meth : Method} {c : Code} {cells slots : Nat} {Q : State → Prop}
variable {D : va_G} {cy : Nat → ClassId} {cc : ByteArray} {z0 nL : Nat} {own : String} {pc : Nat} {lv : List (Nat × LV)} {st : List LV} {h : Hp} {w : Nat → Nat}
variable {b L : Nat} {xs : Nat → Int32}
theorem g_slen (C : Cx p l R s m args meth c D cy z0 nL cc own w) (hX : va_X b L xs s s.heap) (hbl : b < s.heap.size) (hbz : b < z0) (hL : L < 2147483648) (d : decode cc pc = .ok (.arraylength, 1)) (k : GW p l e R s m args below meth c D cy z0 nL Q (pc + 1) lv (.inl (L : Int) :: st) h cells slots) : GW p l e R s m args below meth c D cy z0 nL Q pc lv (.inr (.inr (b + 1)) :: st) h cells slots := fun H locs ls hH hS hl => by
  have h1 := k H locs ls hH hS hl
  have e : toV (.inl (L : Int)) = .int (Int32.ofNat L) := by show Value.int (i32 (L : Int)) = _; rw [i32_nat hL]
  rw [List.map_cons, e] at h1
  exact va_slen C.1.1 C.1.2.1 hX hbl (show ¬ Aof z0 b from Nat.not_le.mpr hbz) hS d h1
theorem g_sld (C : Cx p l R s m args meth c D cy z0 nL cc own w) (hX : va_X b L xs s s.heap) (hbl : b < s.heap.size) (hbz : b < z0) {i : Int} (hi : 0 ≤ i ∧ i < (L : Int)) (hL : L < 2147483648) (d : decode cc pc = .ok (.iaload, 1)) (k : GW p l e R s m args below meth c D cy z0 nL Q (pc + 1) lv (.inl (sx xs i) :: st) h cells slots) : GW p l e R s m args below meth c D cy z0 nL Q pc lv (.inl i :: .inr (.inr (b + 1)) :: st) h cells slots := fun H locs ls hH hS hl => by
  have h1 := k H locs ls hH hS hl
  have hc : (i32 i).toNatClampNeg = i.toNat := z_clamp (by omega) hi.1
  have e : toV (.inl (sx xs i)) = .int (xs i.toNat) := by show Value.int (i32 (xs i.toNat).toInt) = _; rw [i32_of]
  rw [List.map_cons, e] at h1
  refine va_sld C.1.1 C.1.2.1 hX hbl (show ¬ Aof z0 b from Nat.not_le.mpr hbz) hS (i := i32 i) (fun q => ?_) d (by rw [hc]; exact h1)
  rcases q with q | q
  · exact z_nneg (by omega) hi.1 q
  · rw [hc] at q; omega
theorem g_lend (C : Cx p l room_1 s m #[Value.ref b] meth c D cy z0 nL code own w) (hr : meth.sig.returnType = ret) (hzs : s.heap.size ≤ z0) (hc : cells ≤ 601024) (hs : slots ≤ 7293034) (d : decode code pc = .ok (.ireturn, 1)) : GW p l e room_1 s m #[Value.ref b] below meth c D cy z0 nL (lw_Z below #[Value.ref b] s) pc lv [.inl 1] h cells slots := fun H locs ls hH hS hl => by
  refine va_forget (fun q hq => Nat.le_trans hzs (hS.2.2 q hq)) ?_
  refine W.widen hc hs ?_
  exact lw_ret C.1.1 C.1.2.1 hr C.2.2.2.1 d
end LW1
