/-! more about the machine's operations -/
theorem pw_s {k : Int} (hk : 0 ≤ k) : (2 : Int) ^ (k + 1).toNat = 2 * 2 ^ k.toNat := by
  have e : (k + 1).toNat = k.toNat + 1 := by omega
  have e2 : (2 : Int) ^ (k.toNat + 1) = 2 ^ k.toNat * 2 := Int.pow_succ 2 k.toNat
  rw [e, e2]
  omega
theorem mi_shl_n : ∀ x : Nat, x < 67 → ∀ k : Nat, k < 17 → mi_shl x k = x * 2 ^ k := by decide +kernel
theorem mi_shlx {x k : Int} (hx : 0 ≤ x ∧ x ≤ 66) (hk : 0 ≤ k ∧ k ≤ 16) : mi_shl x k = x * 2 ^ k.toNat ∧ 0 ≤ mi_shl x k ∧ mi_shl x k ≤ 4325376 := by
  obtain ⟨a, rfl⟩ : ∃ a : Nat, x = a := ⟨x.toNat, by omega⟩
  obtain ⟨b, rfl⟩ : ∃ b : Nat, k = b := ⟨k.toNat, by omega⟩
  have e := mi_shl_n a (by omega) b (by omega)
  have hp : (2 : Int) ^ b ≤ 2 ^ 16 := mi_pw (by omega)
  have hp0 : (0 : Int) < 2 ^ b := Int.pow_pos (by decide)
  have e16 : (2 : Int) ^ 16 = 65536 := by decide
  have h1 : (a : Int) * 2 ^ b ≤ 66 * 2 ^ b := Int.mul_le_mul_of_nonneg_right (by omega) (by omega)
  refine ⟨by rw [e]; simp, ?_, ?_⟩
  · rw [e]; exact Int.mul_nonneg (by omega) (by omega)
  · rw [e]; omega
theorem mi_or_nn {x y : Int} (hx : 0 ≤ x ∧ x < 1073741824) (hy : 0 ≤ y ∧ y < 1073741824) : 0 ≤ mi_or x y ∧ mi_or x y < 1073741824 := by
  have ex := mi_oi x
  have ey := mi_oi y
  have e0 : x % 4294967296 = x := Int.emod_eq_of_lt hx.1 (by omega)
  have e1 : y % 4294967296 = y := Int.emod_eq_of_lt hy.1 (by omega)
  rw [e0] at ex
  rw [e1] at ey
  have hb : (Int32.ofInt x ||| Int32.ofInt y).toBitVec.toNat < 2 ^ 30 := by
    rw [Int32.toBitVec_or, BitVec.toNat_or]
    exact Nat.or_lt_two_pow (by omega) (by omega)
  unfold mi_or
  have e2 : (Int32.ofInt x ||| Int32.ofInt y).toInt = ((Int32.ofInt x ||| Int32.ofInt y).toBitVec.toNat : Int) := mi_nn (b := (Int32.ofInt x ||| Int32.ofInt y).toBitVec) (by omega)
  rw [e2]
  omega
theorem tt_lsw {Zi : Nat → Option (Nat × (Nat → Int))} {d M pc len tgt : Nat} {ls : List (Option mi_V)} {st : List mi_V} {H : mi_H} {Q : mi_Rs → mi_H → Prop} {x dflt off : Int} {ps : Array (Int × Int)} (hk : mm_kT M pc = some (.lookupswitch dflt ps, len)) (hr : -2147483648 ≤ x ∧ x ≤ 2147483647) (hs : (ps.toList.zip (ps.toList.drop 1)).all (fun (a, next) => a.1 < next.1) = true) (ho : Op.lookupswitch.offset ps.toList dflt x = off) (ht : mi_jump pc off ls st = some (tgt, ls, st)) (g : tt Zi d M (tgt, ls, st, H) Q) : tt Zi d M (pc, ls, .inl x :: st, H) Q := by
  refine tt_st (S' := (tgt, ls, st, H)) ?_ g
  unfold mi_act
  simp only [hk, mi_pure, mi_lsw, if_pos hr, if_pos hs, ho, ht]
theorem tt_tsw {Zi : Nat → Option (Nat × (Nat → Int))} {d M pc len tgt : Nat} {ls : List (Option mi_V)} {st : List mi_V} {H : mi_H} {Q : mi_Rs → mi_H → Prop} {x dflt lo hi off : Int} {offs : Array Int} (hk : mm_kT M pc = some (.tableswitch dflt lo hi offs, len)) (hr : -2147483648 ≤ x ∧ x ≤ 2147483647) (hx : ¬ (x < lo ∨ hi < x)) (ho : offs[(x - lo).toNat]? = some off) (ht : mi_jump pc off ls st = some (tgt, ls, st)) (g : tt Zi d M (tgt, ls, st, H) Q) : tt Zi d M (pc, ls, .inl x :: st, H) Q := by
  refine tt_st (S' := (tgt, ls, st, H)) ?_ g
  unfold mi_act
  simp only [hk, mi_pure, mi_tsw, if_pos hr, if_neg hx, ho, ht]
theorem tt_tsd {Zi : Nat → Option (Nat × (Nat → Int))} {d M pc len tgt : Nat} {ls : List (Option mi_V)} {st : List mi_V} {H : mi_H} {Q : mi_Rs → mi_H → Prop} {x dflt lo hi : Int} {offs : Array Int} (hk : mm_kT M pc = some (.tableswitch dflt lo hi offs, len)) (hr : -2147483648 ≤ x ∧ x ≤ 2147483647) (hx : x < lo ∨ hi < x) (ht : mi_jump pc dflt ls st = some (tgt, ls, st)) (g : tt Zi d M (tgt, ls, st, H) Q) : tt Zi d M (pc, ls, .inl x :: st, H) Q := by
  refine tt_st (S' := (tgt, ls, st, H)) ?_ g
  unfold mi_act
  simp only [hk, mi_pure, mi_tsw, if_pos hr, if_pos hx, ht]
theorem lsw_d {x : Int} (h1 : x ≠ 217) (h2 : x ≠ 218) (h3 : x ≠ 247) : Op.lookupswitch.offset (#[(217, 72), (218, 48), (247, 35)] : Array (Int × Int)).toList 96 x = 96 := by
  simp [Op.lookupswitch.offset, Ne.symm h1, Ne.symm h2, Ne.symm h3]
