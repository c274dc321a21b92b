/-! more about the machine's operations -/
theorem pw_s {k : Int} (hk : 0 ≤ k) : (2 : Int) ^ (k + 1).toNat = 2 * 2 ^ k.toNat := by
  have e : (k + 1).toNat = k.toNat + 1 := by omega
  have e2 : (2 : Int) ^ (k.toNat + 1) = 2 ^ k.toNat * 2 := Int.pow_succ 2 k.toNat
  rw [e, e2]
  omega
theorem mi_shl_n : ∀ x : Nat, x < 67 → ∀ k : Nat, k < 17 → mi_shl x k = x * 2 ^ k := by decide +kernel
theorem mi_shlx {x k : Int} (hx : 0 ≤ x ∧ x ≤ 66) (hk : 0 ≤ k ∧ k ≤ 16) : mi_shl x k = x * 2 ^ k.toNat ∧ 0 ≤ mi_shl x k ∧ mi_shl x k ≤ 4325376 := by
  obtain ⟨a, rfl⟩ : ∃ a : Nat, x = a := ⟨x.toNat, by omega⟩
  obtain ⟨b, rfl⟩ : ∃ b : Nat, k = b := ⟨k.toNat, by omega⟩
  have e := mi_shl_n a (by omega) b (by omega)
  have hp : (2 : Int) ^ b ≤ 2 ^ 16 := mi_pw (by omega)
  have hp0 : (0 : Int) < 2 ^ b := Int.pow_pos (by decide)
  have e16 : (2 : Int) ^ 16 = 65536 := by decide
  have h1 : (a : Int) * 2 ^ b ≤ 66 * 2 ^ b := Int.mul_le_mul_of_nonneg_right (by omega) (by omega)
  refine ⟨by rw [e]; simp, ?_, ?_⟩
  · rw [e]; exact Int.mul_nonneg (by omega) (by omega)
  · rw [e]; omega
theorem mi_or_nn {x y : Int} (hx : 0 ≤ x ∧ x < 1073741824) (hy : 0 ≤ y ∧ y < 1073741824) : 0 ≤ mi_or x y ∧ mi_or x y < 1073741824 := by
  have ex := mi_oi x
  have ey := mi_oi y
  have e0 : x % 4294967296 = x := Int.emod_eq_of_lt hx.1 (by omega)
  have e1 : y % 4294967296 = y := Int.emod_eq_of_lt hy.1 (by omega)
  rw [e0] at ex
  rw [e1] at ey
  have hb : (Int32.ofInt x ||| Int32.ofInt y).toBitVec.toNat < 2 ^ 30 := by
    rw [Int32.toBitVec_or, BitVec.toNat_or]
    exact Nat.or_lt_two_pow (by omega) (by omega)
  unfold mi_or
  have e2 : (Int32.ofInt x ||| Int32.ofInt y).toInt = ((Int32.ofInt x ||| Int32.ofInt y).toBitVec.toNat : Int) := mi_nn (b := (Int32.ofInt x ||| Int32.ofInt y).toBitVec) (by omega)
  rw [e2]
  omega
