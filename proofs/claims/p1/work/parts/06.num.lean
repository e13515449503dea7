/-! NUMBERS: Int32 by its whole number -/
theorem z_rng (x : Int32) : -2147483648 ≤ x.toInt ∧ x.toInt < 2147483648 := by
  have h1 := Int32.le_toInt x
  have h2 := Int32.toInt_lt x
  omega
theorem z_bmod {z : Int} (h1 : -2147483648 ≤ z) (h2 : z < 2147483648) : z.bmod (2 ^ 32) = z := by
  rw [Int.bmod_eq_of_le] <;> omega
theorem zadd {x y : Int32} {X Y : Int} (hX : x.toInt = X) (hY : y.toInt = Y) (h1 : -2147483648 ≤ X + Y) (h2 : X + Y < 2147483648) : (x + y).toInt = X + Y := by
  rw [Int32.toInt_add, hX, hY]; exact z_bmod h1 h2
theorem zsub {x y : Int32} {X Y : Int} (hX : x.toInt = X) (hY : y.toInt = Y) (h1 : -2147483648 ≤ X - Y) (h2 : X - Y < 2147483648) : (x - y).toInt = X - Y := by
  rw [Int32.toInt_sub, hX, hY]; exact z_bmod h1 h2
theorem zmul {x y : Int32} {X Y : Int} (hX : x.toInt = X) (hY : y.toInt = Y) (h1 : -2147483648 ≤ X * Y) (h2 : X * Y < 2147483648) : (x * y).toInt = X * Y := by
  rw [Int32.toInt_mul, hX, hY]; exact z_bmod h1 h2
theorem i_nat {x : Int32} {Z : Int} (n : Nat) (hz : x.toInt = Z) (h0 : 0 ≤ Z) (h1 : Z < (n : Int)) : ∃ j : Nat, j < n ∧ x = nI j ∧ Z = (j : Int) := by
  subst hz
  have h2 := (z_rng x).2
  refine ⟨x.toInt.toNat, by omega, ?_, by omega⟩
  have e : (nI x.toInt.toNat).toInt = x.toInt := by rw [nI_toInt (by omega)]; omega
  exact (Int32.toInt_inj.mp e).symm
theorem kw_oi : Cond.code Lib.objectInit ⟨#[0xb1]⟩ 1 none ∈ uu := uu_in (i := 179) (by decide +kernel) (by decide +kernel)
