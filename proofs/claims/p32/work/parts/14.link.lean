/-! LINK: rows with their words in one bundle -/
def fkI (own : String) (idx c0 j : Nat) (Cn : String) (T : u_T) (N : Nat) : Prop := vwCl[c0]? = some (Cn, T, N) ∧ nf c0 = N ∧ (∀ w ∈ u_ws Cn T N, w ∈ uu) ∧ j < N ∧ Cond.fieldLink own idx (T j).1 (T j).2.1 (T j).2.2.1 ∈ uu ∧ (ft c0 j ≠ 2 ∧ ft c0 j ≠ 4)
def fkJ (own : String) (idx c0 j : Nat) (Cn : String) (T : u_T) (N : Nat) : Prop := vwCl[c0]? = some (Cn, T, N) ∧ nf c0 = N ∧ (∀ w ∈ u_ws Cn T N, w ∈ uu) ∧ j < N ∧ Cond.fieldLink own idx (T j).1 (T j).2.1 (T j).2.2.1 ∈ uu ∧ (ft c0 j = 2)
def fkR (own : String) (idx c0 j : Nat) (Cn : String) (T : u_T) (N : Nat) : Prop := vwCl[c0]? = some (Cn, T, N) ∧ nf c0 = N ∧ (∀ w ∈ u_ws Cn T N, w ∈ uu) ∧ j < N ∧ Cond.fieldLink own idx (T j).1 (T j).2.1 (T j).2.2.1 ∈ uu ∧ (ft c0 j = 4)
def pk (Cn : String) (T : u_T) (N j : Nat) (ty0 : Nat → FieldType) (fin : Bool) : Prop := (∀ k, k < N → parseFieldDescriptor (T k).2.2.1 = some (ty0 k)) ∧ (∀ a, a < N → ∀ b, b < N → a ≠ b → (T a).2.1 ≠ (T b).2.1) ∧ (T j).2.2.2 = fin
def lkV (own : String) (idx : Nat) (y : MethodName) (b : ByteArray) (n : Nat) (r : Option FieldType) (k : Nat) : Prop := Cond.methodLink own idx y ∈ uu ∧ Cond.instanceMethod y ∈ uu ∧ Cond.selects y.cls y y ∈ uu ∧ Cond.initialized y.cls ∈ uu ∧ Cond.code y b n r ∈ uu ∧ yok y k
def lkS (own : String) (idx : Nat) (y : MethodName) (b : ByteArray) (n : Nat) (r : Option FieldType) (k : Nat) : Prop := Cond.methodLink own idx y ∈ uu ∧ Cond.static y ∈ uu ∧ Cond.initialized y.cls ∈ uu ∧ Cond.code y b n r ∈ uu ∧ yok y k
def lkI (own : String) (idx : Nat) (y : MethodName) (b : ByteArray) (n : Nat) (r : Option FieldType) (k : Nat) : Prop := Cond.methodLink own idx y ∈ uu ∧ Cond.instanceMethod y ∈ uu ∧ Cond.initialized y.cls ∈ uu ∧ Cond.code y b n r ∈ uu ∧ yok y k ∧ y.name = "<init>"
def lkN (y : MethodName) (b : ByteArray) (n : Nat) (r : Option FieldType) (k : Nat) : Prop := Cond.instanceMethod y ∈ uu ∧ Cond.initialized y.cls ∈ uu ∧ Cond.code y b n r ∈ uu ∧ yok y k ∧ y.name = "<init>"
theorem il (k : Int) : k ≤ k ∧ k ≤ k := ⟨Int.le_refl k, Int.le_refl k⟩
theorem tg_nz {h : Hp} {n T : Nat} (t : Tg h n = T + 1) : Tg h n ≠ 0 := by omega
theorem nf_i (x : Int) : narrow .int (toV (.inl x)) = toV (.inl x) ∧ fits .int (toV (.inl x)) = true := ⟨rfl, rfl⟩
theorem nar_z2 {x : Int} (f : 0 ≤ x ∧ x ≤ 1) : narrow .boolean (toV (.inl x)) = toV (.inl x) ∧ fits .boolean (toV (.inl x)) = true := nar_z f.1 f.2
theorem lC_rng (x y : Int) : -1 ≤ lC x y ∧ lC x y ≤ 1 := by unfold lC; split; omega; split <;> omega
theorem l2w_in {x lo hi : Int} (f : lo ≤ x ∧ x ≤ hi) (h1 : -2147483648 ≤ lo) (h2 : hi ≤ 2147483647) : lo ≤ l2w x ∧ l2w x ≤ hi := by
  have e : l2w x = x := by
    unfold l2w
    rw [Int64.toInt_toInt32, i64_toInt (by omega)]
    exact Int.bmod_eq_of_le (by omega) (by omega)
  rw [e]; exact f
theorem iC_eq {x : Int} (h : 0 ≤ x ∧ x ≤ 65535) : iC x = x := by
  have h1 : ((i32 x).toUInt32 % 65536).toInt32 = i32 x := c_nar h
  unfold iC
  rw [h1]
  exact i32_toInt (by omega)
theorem iC_in {x lo hi : Int} (f : lo ≤ x ∧ x ≤ hi) (h1 : 0 ≤ lo) (h2 : hi ≤ 65535) : lo ≤ iC x ∧ iC x ≤ hi := by rw [iC_eq (by omega)]; exact f
theorem iv_div {x lo hi l u k : Int} (hk : 0 < k) (f : lo ≤ x ∧ x ≤ hi) (h1 : l = lo / k) (h2 : u = hi / k) : l ≤ x / k ∧ x / k ≤ u := by subst h1 h2; exact ⟨Int.ediv_le_ediv hk f.1, Int.ediv_le_ediv hk f.2⟩
theorem iv_rem {x k u : Int} (hk : 0 < k) (h : k = u + 1) : 0 ≤ x % k ∧ x % k ≤ u := ⟨Int.emod_nonneg _ (by omega), by have := Int.emod_lt_of_pos x hk; omega⟩
theorem iv_rem_s {x lo hi k : Int} (hk : 0 < k) (f : lo ≤ x ∧ x ≤ hi) (h0 : 0 ≤ lo) (h1 : hi < k) (h2 : True) : lo ≤ x % k ∧ x % k ≤ hi := by rw [Int.emod_eq_of_lt (by omega) (by omega)]; exact f
theorem iv_pos {x lo hi : Int} (f : lo ≤ x ∧ x ≤ hi) (h : 0 < lo) : x ≠ 0 := by omega
theorem iD_eq {x k : Int} (hx : 0 ≤ x ∧ x ≤ 2147483647) (hk : 0 < k) (hk2 : k ≤ 2147483647) : iD x k = x / k := by
  unfold iD
  rw [Int32.toInt_div, i32_toInt (by omega), i32_toInt (by omega)]
  rw [Int.tdiv_eq_ediv_of_nonneg hx.1]
  have h1 : 0 ≤ x / k := Int.ediv_nonneg hx.1 (by omega)
  have h2 : x / k ≤ x := Int.ediv_le_self _ hx.1
  exact Int.bmod_eq_of_le (by omega) (by omega)
theorem iM_eq {x k : Int} (hx : 0 ≤ x ∧ x ≤ 2147483647) (hk : 0 < k) (hk2 : k ≤ 2147483647) : iM x k = x % k := by
  have e : i32 x / i32 k = i32 (x / k) := by rw [← iD_eq hx hk hk2]; unfold iD; exact (i32_of _).symm
  unfold iM
  rw [e, ofmul, ofsub, Int.mul_comm, ← Int.emod_def]
  have h1 := Int.emod_nonneg x (show k ≠ 0 by omega)
  have h2 := Int.emod_lt_of_pos x hk
  exact i32_toInt (by omega)
theorem bAnd_k {x : Int} {k : Nat} (hk : k < 31) : 0 ≤ bAnd x (2 ^ k - 1 : Nat) ∧ bAnd x (2 ^ k - 1 : Nat) ≤ (2 ^ k - 1 : Nat) := by
  have e : i32 ((2 ^ k - 1 : Nat) : Int) = Int32.ofNat (2 ^ k - 1) := rfl
  have hlt : 2 ^ k ≤ 2 ^ 30 := Nat.pow_le_pow_right (by decide) (by omega)
  have hb : (i32 x &&& i32 ((2 ^ k - 1 : Nat) : Int)).toBitVec = (i32 x).toBitVec &&& BitVec.ofNat 32 (2 ^ k - 1) := rfl
  have hn : ((i32 x).toBitVec &&& BitVec.ofNat 32 (2 ^ k - 1)).toNat ≤ 2 ^ k - 1 := by
    rw [BitVec.toNat_and]
    refine Nat.le_trans Nat.and_le_right ?_
    rw [BitVec.toNat_ofNat]
    exact Nat.mod_le _ _
  have hi : bAnd x (2 ^ k - 1 : Nat) = (((i32 x).toBitVec &&& BitVec.ofNat 32 (2 ^ k - 1)).toNat : Int) := by
    show (i32 x &&& i32 ((2 ^ k - 1 : Nat) : Int)).toBitVec.toInt = _
    rw [hb, BitVec.toInt_eq_toNat_of_lt]
    have : 2 ^ k - 1 < 2 ^ 30 := by omega
    omega
  rw [hi]
  omega
theorem bAnd_255 (x : Int) : 0 ≤ bAnd x 255 ∧ bAnd x 255 ≤ 255 := bAnd_k (k := 8) (by decide)
theorem bAnd_1 (x : Int) : 0 ≤ bAnd x 1 ∧ bAnd x 1 ≤ 1 := bAnd_k (k := 1) (by decide)
theorem bAnd_63 (x : Int) : 0 ≤ bAnd x 63 ∧ bAnd x 63 ≤ 63 := bAnd_k (k := 6) (by decide)
section LK1
variable {p : Program} {l : Launch} {e : Env} {R : Room} {s : State} {m : MethodId} {args : Array Value} {below : List Frame} {meth : Method} {c : Code} {cells slots : Nat} {Q : State → Prop}
variable {D : va_G} {cy : Nat → ClassId} {cc : ByteArray} {z0 nL : Nat} {own : String} {pc : Nat} {lv : List (Nat × LV)} {st : List LV} {h : Hp} {w : Nat → Nat}
theorem gf_I (C : Cx p l R s m args meth c D cy z0 nL cc own w) {Cn : String} {T : u_T} {N c0 j idx n T0 : Nat} (b : fkI own idx c0 j Cn T N) (hT0 : T0 % 1000 = c0 + 1) (ht : Tg h n = T0) {x : Int} (hv : Iv h n j = x) (d : decode cc pc = .ok (.getfield idx, 3)) (k : GW p l e R s m args below meth c D cy z0 nL Q (pc + 3) lv (.inl x :: st) h cells slots) : GW p l e R s m args below meth c D cy z0 nL Q pc lv (.inr (.inr n) :: st) h cells slots := g_getI C ht hT0 b.1 b.2.1 b.2.2.1 b.2.2.2.1 b.2.2.2.2.1 b.2.2.2.2.2 hv d k
theorem gp_I (C : Cx p l R s m args meth c D cy z0 nL cc own w) {Cn : String} {T : u_T} {N c0 j idx n T0 : Nat} {ty0 : Nat → FieldType} (b : fkI own idx c0 j Cn T N) (p0 : pk Cn T N j ty0 false) (hT0 : T0 % 1000 = c0 + 1) (ht : Tg h n = T0) {x : Int} (hx : inR x)  (hnf : narrow (ty0 j) (toV (.inl x)) = toV (.inl x) ∧ fits (ty0 j) (toV (.inl x)) = true) (d : decode cc pc = .ok (.putfield idx, 3)) (k : ∀ h1, sI h n j x = h1 → GW p l e R s m args below meth c D cy z0 nL Q (pc + 3) lv st h1 cells slots) : GW p l e R s m args below meth c D cy z0 nL Q pc lv (.inl x :: .inr (.inr n) :: st) h cells slots := g_putI C ht hT0 b.1 b.2.1 b.2.2.1 b.2.2.2.1 b.2.2.2.2.1 ty0 p0.1 p0.2.1 p0.2.2 b.2.2.2.2.2 hx hnf d k
theorem gp_IF (C : Cx p l R s m args meth c D cy z0 nL cc own w) {Cn : String} {T : u_T} {N c0 j idx n T0 : Nat} {ty0 : Nat → FieldType} (b : fkI own idx c0 j Cn T N) (p0 : pk Cn T N j ty0 true) (hT0 : T0 % 1000 = c0 + 1) (ht : Tg h n = T0) (hmn : meth.name = "<init>") (hdecl : (T j).1 = own) {x : Int} (hx : inR x)  (hnf : narrow (ty0 j) (toV (.inl x)) = toV (.inl x) ∧ fits (ty0 j) (toV (.inl x)) = true) (d : decode cc pc = .ok (.putfield idx, 3)) (k : ∀ h1, sI h n j x = h1 → GW p l e R s m args below meth c D cy z0 nL Q (pc + 3) lv st h1 cells slots) : GW p l e R s m args below meth c D cy z0 nL Q pc lv (.inl x :: .inr (.inr n) :: st) h cells slots := g_putIF C ht hT0 b.1 b.2.1 b.2.2.1 b.2.2.2.1 b.2.2.2.2.1 ty0 p0.1 p0.2.1 p0.2.2 hmn hdecl b.2.2.2.2.2 hx hnf d k
theorem gf_J (C : Cx p l R s m args meth c D cy z0 nL cc own w) {Cn : String} {T : u_T} {N c0 j idx n T0 : Nat} (b : fkJ own idx c0 j Cn T N) (hT0 : T0 % 1000 = c0 + 1) (ht : Tg h n = T0) {x : Int} (hv : Jv h n j = x) (d : decode cc pc = .ok (.getfield idx, 3)) (k : GW p l e R s m args below meth c D cy z0 nL Q (pc + 3) lv (.inr (.inl x) :: st) h cells slots) : GW p l e R s m args below meth c D cy z0 nL Q pc lv (.inr (.inr n) :: st) h cells slots := g_getJ C ht hT0 b.1 b.2.1 b.2.2.1 b.2.2.2.1 b.2.2.2.2.1 b.2.2.2.2.2 hv d k
theorem gp_J (C : Cx p l R s m args meth c D cy z0 nL cc own w) {Cn : String} {T : u_T} {N c0 j idx n T0 : Nat} {ty0 : Nat → FieldType} (b : fkJ own idx c0 j Cn T N) (p0 : pk Cn T N j ty0 false) (hT0 : T0 % 1000 = c0 + 1) (ht : Tg h n = T0) (hl : ty0 j = .long) {x : Int} (hx : inL x)  (d : decode cc pc = .ok (.putfield idx, 3)) (k : ∀ h1, sJ h n j x = h1 → GW p l e R s m args below meth c D cy z0 nL Q (pc + 3) lv st h1 cells slots) : GW p l e R s m args below meth c D cy z0 nL Q pc lv (.inr (.inl x) :: .inr (.inr n) :: st) h cells slots := g_putJ C ht hT0 b.1 b.2.1 b.2.2.1 b.2.2.2.1 b.2.2.2.2.1 ty0 p0.1 p0.2.1 p0.2.2 b.2.2.2.2.2 hx ⟨by rw [hl]; rfl, by rw [hl]; rfl⟩ d k
theorem gp_JF (C : Cx p l R s m args meth c D cy z0 nL cc own w) {Cn : String} {T : u_T} {N c0 j idx n T0 : Nat} {ty0 : Nat → FieldType} (b : fkJ own idx c0 j Cn T N) (p0 : pk Cn T N j ty0 true) (hT0 : T0 % 1000 = c0 + 1) (ht : Tg h n = T0) (hmn : meth.name = "<init>") (hdecl : (T j).1 = own) (hl : ty0 j = .long) {x : Int} (hx : inL x)  (d : decode cc pc = .ok (.putfield idx, 3)) (k : ∀ h1, sJ h n j x = h1 → GW p l e R s m args below meth c D cy z0 nL Q (pc + 3) lv st h1 cells slots) : GW p l e R s m args below meth c D cy z0 nL Q pc lv (.inr (.inl x) :: .inr (.inr n) :: st) h cells slots := g_putJF C ht hT0 b.1 b.2.1 b.2.2.1 b.2.2.2.1 b.2.2.2.2.1 ty0 p0.1 p0.2.1 p0.2.2 hmn hdecl b.2.2.2.2.2 hx ⟨by rw [hl]; rfl, by rw [hl]; rfl⟩ d k
theorem gf_R (C : Cx p l R s m args meth c D cy z0 nL cc own w) {Cn : String} {T : u_T} {N c0 j idx n T0 : Nat} (b : fkR own idx c0 j Cn T N) (hT0 : T0 % 1000 = c0 + 1) (ht : Tg h n = T0) {x : Nat} (hv : Rv h n j = x) (d : decode cc pc = .ok (.getfield idx, 3)) (k : GW p l e R s m args below meth c D cy z0 nL Q (pc + 3) lv (.inr (.inr x) :: st) h cells slots) : GW p l e R s m args below meth c D cy z0 nL Q pc lv (.inr (.inr n) :: st) h cells slots := g_getR C ht hT0 b.1 b.2.1 b.2.2.1 b.2.2.2.1 b.2.2.2.2.1 b.2.2.2.2.2 hv d k
theorem gp_R (C : Cx p l R s m args meth c D cy z0 nL cc own w) {Cn : String} {T : u_T} {N c0 j idx n T0 : Nat} {ty0 : Nat → FieldType} (b : fkR own idx c0 j Cn T N) (p0 : pk Cn T N j ty0 false) (hT0 : T0 % 1000 = c0 + 1) (ht : Tg h n = T0) {x : Nat}  (hnf : narrow (ty0 j) (toV (.inr (.inr x))) = toV (.inr (.inr x)) ∧ fits (ty0 j) (toV (.inr (.inr x))) = true) (d : decode cc pc = .ok (.putfield idx, 3)) (k : ∀ h1, sR h n j x = h1 → GW p l e R s m args below meth c D cy z0 nL Q (pc + 3) lv st h1 cells slots) : GW p l e R s m args below meth c D cy z0 nL Q pc lv (.inr (.inr x) :: .inr (.inr n) :: st) h cells slots := g_putR C ht hT0 b.1 b.2.1 b.2.2.1 b.2.2.2.1 b.2.2.2.2.1 ty0 p0.1 p0.2.1 p0.2.2 b.2.2.2.2.2 trivial hnf d k
theorem gp_RF (C : Cx p l R s m args meth c D cy z0 nL cc own w) {Cn : String} {T : u_T} {N c0 j idx n T0 : Nat} {ty0 : Nat → FieldType} (b : fkR own idx c0 j Cn T N) (p0 : pk Cn T N j ty0 true) (hT0 : T0 % 1000 = c0 + 1) (ht : Tg h n = T0) (hmn : meth.name = "<init>") (hdecl : (T j).1 = own) {x : Nat}  (hnf : narrow (ty0 j) (toV (.inr (.inr x))) = toV (.inr (.inr x)) ∧ fits (ty0 j) (toV (.inr (.inr x))) = true) (d : decode cc pc = .ok (.putfield idx, 3)) (k : ∀ h1, sR h n j x = h1 → GW p l e R s m args below meth c D cy z0 nL Q (pc + 3) lv st h1 cells slots) : GW p l e R s m args below meth c D cy z0 nL Q pc lv (.inr (.inr x) :: .inr (.inr n) :: st) h cells slots := g_putRF C ht hT0 b.1 b.2.1 b.2.2.1 b.2.2.2.1 b.2.2.2.2.1 ty0 p0.1 p0.2.1 p0.2.2 hmn hdecl b.2.2.2.2.2 trivial hnf d k
theorem g_idivE (C : Cx p l R s m args meth c D cy z0 nL cc own w) {x k : Int} (hx : 0 ≤ x ∧ x ≤ 2147483647) (hk : 0 < k) (hk2 : k ≤ 2147483647) (d : decode cc pc = .ok (.idiv, 1)) (kk : GW p l e R s m args below meth c D cy z0 nL Q (pc + 1) lv (.inl (x / k) :: st) h cells slots) : GW p l e R s m args below meth c D cy z0 nL Q pc lv (.inl k :: .inl x :: st) h cells slots := g_idiv C (by omega) (by omega) d (by rw [iD_eq hx hk hk2]; exact kk)
theorem g_iremE (C : Cx p l R s m args meth c D cy z0 nL cc own w) {x k : Int} (hx : 0 ≤ x ∧ x ≤ 2147483647) (hk : 0 < k) (hk2 : k ≤ 2147483647) (d : decode cc pc = .ok (.irem, 1)) (kk : GW p l e R s m args below meth c D cy z0 nL Q (pc + 1) lv (.inl (x % k) :: st) h cells slots) : GW p l e R s m args below meth c D cy z0 nL Q pc lv (.inl k :: .inl x :: st) h cells slots := g_irem C (by omega) (by omega) d (by rw [iM_eq hx hk hk2]; exact kk)
variable {y : MethodName} {b : ByteArray} {n : Nat} {r : Option FieldType} {fr lo mc ms : Nat} {As : List LV} {idx k : Nat} {Qc : Array Value → State → Outcome → State → Prop} {st0 : List LV}
theorem gc_V (C : Cx p l R s m args meth c D cy z0 nL cc own w) {n0 ci T0 : Nat} {T : u_T} {N : Nat} (k0 : lkV own idx y b n r k) (hM : Met l y (wU y b n r) (rmm fr lo mc ms) (va_Pc ((.inr (.inr n0) :: As).map toV) (HIv D cy w z0 h)) Qc mc ms (Aof z0)) (ht : Tg h n0 = T0) (hT0 : T0 % 1000 = ci + 1) (hci : vwCl[ci]? = some (y.cls, T, N)) (hk : As.length = k) (hR : fr + 1 ≤ R.frames ∧ 8 + (n + 11) + lo ≤ R.locals) (hcat : lvn st ≤ 8) (d : decode cc pc = .ok (.invokevirtual idx, 3)) (hf : cells + mc ≤ R.cells ∧ slots + ms ≤ R.slots) :
    ∀ (H : Heap) (locs : List Loc) (ls : Array Slot), Hold D cy z0 h H → va_S (Aof z0) s.heap H locs → lv_has ls nL (lvl lv) → va_Run p l e R s m args below meth c H locs cells slots mc ms (F0 m pc ls ((As.reverse ++ .inr (.inr n0) :: st).map toV)) (st.map toV) (Qc ((.inr (.inr n0) :: As : List LV).map toV).toArray) (Aof z0) := gr_V C hM ht hT0 hci k0.1 k0.2.1 k0.2.2.1 k0.2.2.2.1 k0.2.2.2.2.1 k0.2.2.2.2.2 hk hR hcat d hf
theorem gc_S (C : Cx p l R s m args meth c D cy z0 nL cc own w) (k0 : lkS own idx y b n r k) (hM : Met l y (wU y b n r) (rmm fr lo mc ms) (va_Pc (As.map toV) (HIv D cy w z0 h)) Qc mc ms (Aof z0)) (hk : As.length = k) (hR : fr + 1 ≤ R.frames ∧ 8 + (n + 11) + lo ≤ R.locals) (hcat : lvn st ≤ 8) (d : decode cc pc = .ok (.invokestatic idx, 3)) (hf : cells + mc ≤ R.cells ∧ slots + ms ≤ R.slots) :
    ∀ (H : Heap) (locs : List Loc) (ls : Array Slot), Hold D cy z0 h H → va_S (Aof z0) s.heap H locs → lv_has ls nL (lvl lv) → va_Run p l e R s m args below meth c H locs cells slots mc ms (F0 m pc ls ((As.reverse ++ st).map toV)) (st.map toV) (Qc (As.map toV).toArray) (Aof z0) := gr_S C hM k0.1 k0.2.1 k0.2.2.1 k0.2.2.2.1 k0.2.2.2.2 hk hR hcat d hf
theorem gc_I (C : Cx p l R s m args meth c D cy z0 nL cc own w) {n0 : Nat} (k0 : lkI own idx y b n r k) (hr : r = none) (hM : Met l y (wU y b n r) (rmm fr lo mc ms) (va_Pc ((.inr (.inr n0) :: As).map toV) (HIv D cy w z0 h)) Qc mc ms (Aof z0)) (ht : Tg h n0 ≠ 0) (hk : As.length = k) (hR : fr + 1 ≤ R.frames ∧ 8 + (n + 11) + lo ≤ R.locals) (hcat : lvn st ≤ 8) (d : decode cc pc = .ok (.invokespecial idx, 3)) (hf : cells + mc ≤ R.cells ∧ slots + ms ≤ R.slots) :
    ∀ (H : Heap) (locs : List Loc) (ls : Array Slot), Hold D cy z0 h H → va_S (Aof z0) s.heap H locs → lv_has ls nL (lvl lv) → va_Run p l e R s m args below meth c H locs cells slots mc ms (F0 m pc ls ((As.reverse ++ .inr (.inr n0) :: st).map toV)) (st.map toV) (Qc ((.inr (.inr n0) :: As : List LV).map toV).toArray) (Aof z0) := gr_I C hr hM ht k0.1 k0.2.1 k0.2.2.1 k0.2.2.2.1 k0.2.2.2.2.1 k0.2.2.2.2.2 hk hR hcat d hf
theorem gc_N (C : Cx p l R s m args meth c D cy z0 nL cc own w) {n0 : Nat} {host : String} (k0 : lkN y b n r k) (hr : r = none) (hM : Met l y (wU y b n r) (rmm fr lo mc ms) (va_Pc ((.inr (.inr n0) :: As).map toV) (HIv D cy w z0 h)) Qc mc ms (Aof z0)) (ht : Tg h n0 ≠ 0) (v1 : va_Nw (.methodLinkNest own idx y host) s) (hk : As.length = k) (hR : fr + 1 ≤ R.frames ∧ 8 + (n + 11) + lo ≤ R.locals) (hcat : lvn st ≤ 8) (d : decode cc pc = .ok (.invokespecial idx, 3)) (hf : cells + mc ≤ R.cells ∧ slots + ms ≤ R.slots) :
    ∀ (H : Heap) (locs : List Loc) (ls : Array Slot), Hold D cy z0 h H → va_S (Aof z0) s.heap H locs → lv_has ls nL (lvl lv) → va_Run p l e R s m args below meth c H locs cells slots mc ms (F0 m pc ls ((As.reverse ++ .inr (.inr n0) :: st).map toV)) (st.map toV) (Qc ((.inr (.inr n0) :: As : List LV).map toV).toArray) (Aof z0) := gr_IN C host hr hM ht v1 k0.1 k0.2.1 k0.2.2.1 k0.2.2.2.1 k0.2.2.2.2 hk hR hcat d hf
end LK1
