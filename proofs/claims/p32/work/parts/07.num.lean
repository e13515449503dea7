/-! NUMBERS: Int32 by its whole number -/
theorem z_rng (x : Int32) : -2147483648 ≤ x.toInt ∧ x.toInt < 2147483648 := by
  have h1 := Int32.le_toInt x
  have h2 := Int32.toInt_lt x
  omega
theorem z_bmod {z : Int} (h1 : -2147483648 ≤ z) (h2 : z < 2147483648) : z.bmod (2 ^ 32) = z := by
  rw [Int.bmod_eq_of_le] <;> omega
theorem zadd {x y : Int32} {X Y : Int} (hX : x.toInt = X) (hY : y.toInt = Y) (h1 : -2147483648 ≤ X + Y) (h2 : X + Y < 2147483648) : (x + y).toInt = X + Y := by
  rw [Int32.toInt_add, hX, hY]; exact z_bmod h1 h2
theorem zsub {x y : Int32} {X Y : Int} (hX : x.toInt = X) (hY : y.toInt = Y) (h1 : -2147483648 ≤ X - Y) (h2 : X - Y < 2147483648) : (x - y).toInt = X - Y := by
  rw [Int32.toInt_sub, hX, hY]; exact z_bmod h1 h2
theorem zmul {x y : Int32} {X Y : Int} (hX : x.toInt = X) (hY : y.toInt = Y) (h1 : -2147483648 ≤ X * Y) (h2 : X * Y < 2147483648) : (x * y).toInt = X * Y := by
  rw [Int32.toInt_mul, hX, hY]; exact z_bmod h1 h2
theorem i_nat {x : Int32} {Z : Int} (n : Nat) (hz : x.toInt = Z) (h0 : 0 ≤ Z) (h1 : Z < (n : Int)) : ∃ j : Nat, j < n ∧ x = nI j ∧ Z = (j : Int) := by
  subst hz
  have h2 := (z_rng x).2
  refine ⟨x.toInt.toNat, by omega, ?_, by omega⟩
  have e : (nI x.toInt.toNat).toInt = x.toInt := by rw [nI_toInt (by omega)]; omega
  exact (Int32.toInt_inj.mp e).symm
theorem kw_oi : Cond.code Lib.objectInit ⟨#[0xb1]⟩ 1 none ∈ uu := uu_in (i := 179) (by decide +kernel) (by decide +kernel)
section Loops
variable {p : Program} {l : Launch} {e : Env} {R : Room} {s : State} {m : MethodId} {args : Array Value} {below : List Frame} {meth : Method} {c : Code} {H : Heap} {locs : List Loc} {cells slots : Nat} {Q : State → Prop}
variable {D : va_G} {nL : Nat} {ls : Array Slot} {A : Nat → Prop}
/-- a loop that counts up to K, over worlds and locals that its state gives -/
theorem loopN {σ : Type} (head K : Nat) (Wf : Nat → σ → va_W) (Lf : Nat → σ → List (Nat × Value)) (J : Nat → σ → Prop)
    (hend : ∀ (x : σ), J K x → ∀ (H : Heap) (locs : List Loc) (ls : Array Slot), va_P D vwCl (Wf K x) H → va_D A (Wf K x) → va_S A s.heap H locs → lv_has ls nL (Lf K x) → W p l e R s m args below meth c H locs cells slots Q (F0 m head ls []))
    (hstep : ∀ (k : Nat) (x : σ), k < K → J k x → ∀ (H : Heap) (locs : List Loc) (ls : Array Slot), va_P D vwCl (Wf k x) H → va_D A (Wf k x) → va_S A s.heap H locs → lv_has ls nL (Lf k x) →
      (∀ (x' : σ) (H' : Heap) (locs' : List Loc) (ls' : Array Slot), J (k + 1) x' → va_P D vwCl (Wf (k + 1) x') H' → va_D A (Wf (k + 1) x') → va_S A s.heap H' locs' → lv_has ls' nL (Lf (k + 1) x') → W p l e R s m args below meth c H' locs' cells slots Q (F0 m head ls' [])) → W p l e R s m args below meth c H locs cells slots Q (F0 m head ls []))
    (x0 : σ) (h0 : J 0 x0) (hP : va_P D vwCl (Wf 0 x0) H) (hD : va_D A (Wf 0 x0)) (hS : va_S A s.heap H locs) (hl : lv_has ls nL (Lf 0 x0)) : W p l e R s m args below meth c H locs cells slots Q (F0 m head ls []) := by
  have go : ∀ (d k : Nat) (x : σ), k + d = K → J k x → ∀ (H : Heap) (locs : List Loc) (ls : Array Slot), va_P D vwCl (Wf k x) H → va_D A (Wf k x) → va_S A s.heap H locs → lv_has ls nL (Lf k x) → W p l e R s m args below meth c H locs cells slots Q (F0 m head ls []) := by
    intro d
    induction d with
    | zero => intro k x hk; obtain rfl : k = K := by omega
              exact hend x
    | succ d ih => exact fun k x hk hJ H locs ls hP hD hS hl => hstep k x (by omega) hJ H locs ls hP hD hS hl (fun x' H' locs' ls' hJ' => ih (k + 1) x' (by omega) hJ' H' locs' ls')
  exact go K 0 x0 (by omega) h0 H locs ls hP hD hS hl
/-- the same where nothing is written -/
theorem loopR {σ : Type} (head K : Nat) (Lf : Nat → σ → List (Nat × Value)) (J : Nat → σ → Prop)
    (hend : ∀ (x : σ), J K x → ∀ (ls : Array Slot), lv_has ls nL (Lf K x) → W p l e R s m args below meth c H locs cells slots Q (F0 m head ls []))
    (hstep : ∀ (k : Nat) (x : σ), k < K → J k x → ∀ (ls : Array Slot), lv_has ls nL (Lf k x) →
      (∀ (x' : σ) (ls' : Array Slot), J (k + 1) x' → lv_has ls' nL (Lf (k + 1) x') → W p l e R s m args below meth c H locs cells slots Q (F0 m head ls' [])) → W p l e R s m args below meth c H locs cells slots Q (F0 m head ls []))
    (x0 : σ) (h0 : J 0 x0) (hl : lv_has ls nL (Lf 0 x0)) : W p l e R s m args below meth c H locs cells slots Q (F0 m head ls []) := by
  have go : ∀ (d k : Nat) (x : σ), k + d = K → J k x → ∀ (ls : Array Slot), lv_has ls nL (Lf k x) → W p l e R s m args below meth c H locs cells slots Q (F0 m head ls []) := by
    intro d
    induction d with
    | zero => intro k x hk; obtain rfl : k = K := by omega
              exact hend x
    | succ d ih => exact fun k x hk hJ ls hl => hstep k x (by omega) hJ ls hl (fun x' ls' hJ' => ih (k + 1) x' (by omega) hJ' ls')
  exact go K 0 x0 (by omega) h0 ls hl
end Loops
/-- an array's contents count only below its length -/
theorem arr_i {D : va_G} {cl : List vw_C} {ws : va_W} {H : Heap} (q0 : Nat) {a : Nat} {cA : ClassId} {n : Nat} {f : Nat → Int32} (g : Nat → Int32) (h : va_P D cl ws H) (he : ws[q0]? = some (a, .inl (cA, n, .inl f))) (hfg : ∀ j, j < n → f j = g j) : va_P D cl (ws.set q0 (a, .inl (cA, n, .inl g))) H := by
  intro k q hk
  rw [List.getElem?_set] at hk
  split at hk
  · rename_i e
    subst e
    split at hk
    · have hq := h q0 _ he
      cases hk
      have e1 : vp_cell cA (n, .inl f) = vp_cell cA (n, .inl g) := by
        simp only [vp_cell, arrV]
        congr 1
        apply Array.ext
        · simp
        · intro i h1 h2
          simp at h1 h2 ⊢
          exact hfg i (by omega)
      show H[a]? = some (vp_cell cA (n, .inl g))
      rw [← e1]
      exact hq
    · cases hk
  · exact h k q hk
theorem arr_l {D : va_G} {cl : List vw_C} {ws : va_W} {H : Heap} (q0 : Nat) {a : Nat} {cA : ClassId} {n : Nat} {f : Nat → Int64} (g : Nat → Int64) (h : va_P D cl ws H) (he : ws[q0]? = some (a, .inl (cA, n, .inr (.inl f)))) (hfg : ∀ j, j < n → f j = g j) : va_P D cl (ws.set q0 (a, .inl (cA, n, .inr (.inl g)))) H := by
  intro k q hk
  rw [List.getElem?_set] at hk
  split at hk
  · rename_i e
    subst e
    split at hk
    · have hq := h q0 _ he
      cases hk
      have e1 : vp_cell cA (n, .inr (.inl f)) = vp_cell cA (n, .inr (.inl g)) := by
        simp only [vp_cell, arrV]
        congr 1
        apply Array.ext
        · simp
        · intro i h1 h2
          simp at h1 h2 ⊢
          exact hfg i (by omega)
      show H[a]? = some (vp_cell cA (n, .inr (.inl g)))
      rw [← e1]
      exact hq
    · cases hk
  · exact h k q hk
theorem d_set {A : Nat → Prop} {ws : va_W} (q0 : Nat) {a : Nat} {e0 e1 : va_E} (h : va_D A ws) (he : ws[q0]? = some (a, e0)) : va_D A (ws.set q0 (a, e1)) := h.set he
section RowN
variable {p : Program} {l : Launch} {e : Env} {R : Room} {s : State} {m : MethodId} {args : Array Value} {below : List Frame} {meth : Method} {c : Code} {H : Heap} {locs : List Loc} {cells slots : Nat} {Q : State → Prop}
variable {D : va_G} {cy : Nat → ClassId} {cc : ByteArray} {nL : Nat} {own : String} {pc : Nat} {ls : Array Slot} {mc ms : Nat} {A : Nat → Prop} {Su : Type} {w1 : Su → va_W}
variable {y : MethodName} {b : ByteArray} {n : Nat} {r : Option FieldType} {fr lo : Nat} {wc wr ws : va_W} {As rest st : List Value} {idx k a : Nat} {Qc : Nat → Array Value → State → Outcome → State → Prop}
theorem runIN_C (host : String) (S : CallFix p m c cc nL s args uu own) (hM : ∀ sz, Met l y (wU y b n none) (rmm fr lo mc ms) (va_Pc (.ref a :: As) (Inv D cy sz wc)) (Qc sz) mc ms (va_A wc sz)) (hK : KX D cy s) (hP : va_P D vwCl ws H) (hD : va_D A ws) (isC : List Nat) (hnd : va_nd isC = true) (hC : isC.map (fun i => ws[i]?) = wc.map some)
    (v1 : va_Nw (.methodLinkNest own idx y host) s) (v2 : Cond.instanceMethod y ∈ uu) (v4 : Cond.initialized y.cls ∈ uu) (v5 : Cond.code y b n none ∈ uu) (hy : yok y k) (hnm : y.name = "<init>") (hk : As.length = k) (hR : fr + 1 ≤ R.frames ∧ 8 + (n + 11) + lo ≤ R.locals) (hls : ls.size = nL) (hst : st = As.reverse ++ .ref a :: rest) (hcat : (rest.map fun v => v.category).sum ≤ 8) (d : decode cc pc = .ok (.invokespecial idx, 3)) (hf : cells + mc ≤ R.cells ∧ slots + ms ≤ R.slots) :
    va_Run p l e R s m args below meth c H locs cells slots mc ms (F0 m pc ls st) rest (Qc H.size (Value.ref a :: As).toArray) (va_A wc H.size) := by
  have hPc := hP.sub (ws' := wc) isC (fm_of hC)
  have hDc := hD.sub (ws' := wc) isC hnd hC
  have ht := S.2.2.2.2
  exact va_runIN (Ts := uu) (own := own) S (hM H.size) ⟨va_cnB k ht (gU v5) rfl rfl rfl v1 (ht _ v4) hy hR, hnm, ht _ v2⟩ ⟨inv_blind, fun U hU hW => ⟨rfl, by rw [hU], by rw [hU]; exact hPc, KX.warm hW hK, hDc.weaken (fun _ _ _ _ => trivial)⟩⟩ rfl hk hls hst (lv_room hcat) d hf
end RowN
