/-! measures of a scan that are as they must be: of the reference -/
def mvP (most near t1 t2 t3 halving step range q longest : Int) : Prop :=
  (0 ≤ near ∧ near ≤ 255 ∧ 2 * near ≤ most ∧ most ≤ 65535) ∧ step = 2 * near + 1 ∧ range = (most + 2 * near) / step + 1 ∧ (2 ≤ range ∧ range ≤ 65536) ∧
  (most + 2 * near < range * step ∧ range * step ≤ most + 2 * near + step) ∧ (near < t1 ∧ t1 ≤ t2 ∧ t2 ≤ t3 ∧ t3 ≤ most) ∧ (3 ≤ halving ∧ halving ≤ 65535) ∧
  (1 ≤ q ∧ q ≤ 16 ∧ range ≤ 2 ^ q.toNat ∧ 2 ^ (q - 1).toNat < range) ∧ (20 ≤ longest ∧ longest ≤ 64 ∧ 4 * q ≤ longest ∧ (longest ≤ 36 ∨ 40 ≤ longest))
def mvk : List Nat := [3017, 3018, 3019, 3020, 3021, 3022, 3023, 3024, 3025, 3026]
def mv (s : Nat → Int) : Prop := mvP (s 3017) (s 3018) (s 3019) (s 3020) (s 3021) (s 3022) (s 3023) (s 3024) (s 3025) (s 3026)
theorem mv_eq {s s1 : Nat → Int} (e : ∀ k ∈ mvk, s1 k = s k) (h : mv s) : mv s1 := by
  unfold mv at h ⊢
  rw [e 3017 (by decide), e 3018 (by decide), e 3019 (by decide), e 3020 (by decide), e 3021 (by decide), e 3022 (by decide), e 3023 (by decide), e 3024 (by decide), e 3025 (by decide), e 3026 (by decide)]
  exact h
theorem mv_us {s : Nat → Int} {k : Nat} {v : Int} (hk : k ∉ mvk) (h : mv s) : mv (us s k v) := mv_eq (fun j hj => us_ne (fun e => hk (by rw [← e]; exact hj))) h
theorem mv_fr {s s1 : Nat → Int} {L : List Nat} (f : fr s s1 L) (hd : ∀ k ∈ mvk, k ∉ L) (h : mv s) : mv s1 := mv_eq (fun j hj => f j (hd j hj)) h
/-- the plain part of it -/
theorem mv_fx {s : Nat → Int} (h : mv s) : (0 ≤ s 3018 ∧ s 3018 ≤ 255 ∧ 2 * s 3018 ≤ s 3017 ∧ s 3017 ≤ 65535) ∧ s 3023 = 2 * s 3018 + 1 ∧ (2 ≤ s 3024 ∧ s 3024 ≤ 65536) ∧ (s 3017 + 2 * s 3018 < s 3024 * s 3023 ∧ s 3024 * s 3023 ≤ s 3017 + 2 * s 3018 + s 3023) ∧ (s 3018 < s 3019 ∧ s 3019 ≤ s 3020 ∧ s 3020 ≤ s 3021 ∧ s 3021 ≤ s 3017) ∧ (3 ≤ s 3022 ∧ s 3022 ≤ 65535) ∧ (1 ≤ s 3025 ∧ s 3025 ≤ 16) ∧ (20 ≤ s 3026 ∧ s 3026 ≤ 64 ∧ 4 * s 3025 ≤ s 3026 ∧ (s 3026 ≤ 36 ∨ 40 ≤ s 3026)) :=
  ⟨h.1, h.2.1, h.2.2.2.1, h.2.2.2.2.1, h.2.2.2.2.2.1, h.2.2.2.2.2.2.1, ⟨h.2.2.2.2.2.2.2.1.1, h.2.2.2.2.2.2.2.1.2.1⟩, h.2.2.2.2.2.2.2.2⟩
/-- an error's quotient is below RANGE -/
theorem mv_div {s : Nat → Int} (h : mv s) {x : Int} (hx : x ≤ s 3017 + 2 * s 3018) : x / s 3023 ≤ s 3024 - 1 := by
  have h3 : s 3024 = (s 3017 + 2 * s 3018) / s 3023 + 1 := h.2.2.1
  have h4 : x / s 3023 ≤ (s 3017 + 2 * s 3018) / s 3023 := Int.ediv_le_ediv (by have := h.2.1; have := h.1.1; omega) hx
  omega
theorem mul_bd {e st a b : Int} (h0 : -a ≤ e) (h1 : e ≤ a) (h2 : 0 ≤ st) (h3 : st ≤ b) (ha : 0 ≤ a) : -(a * b) ≤ e * st ∧ e * st ≤ a * b := by
  have k1 : e * st ≤ a * st := Int.mul_le_mul_of_nonneg_right h1 h2
  have k2 : a * st ≤ a * b := Int.mul_le_mul_of_nonneg_left h3 ha
  have k3 : -a * st ≤ e * st := Int.mul_le_mul_of_nonneg_right h0 h2
  rw [Int.neg_mul] at k3
  omega
/-! the long number n shifted by k, against a sum -/
theorem mi_lcmp_lt {x y : Int} (hx : -9223372036854775808 ≤ x ∧ x ≤ 9223372036854775807) (hy : -9223372036854775808 ≤ y ∧ y ≤ 9223372036854775807) : (mi_lcmp x y < 0 ↔ x < y) ∧ (-1 ≤ mi_lcmp x y ∧ mi_lcmp x y ≤ 1) := by
  have ex : (Int64.ofInt x).toInt = x := Int64.toInt_ofInt_of_le (by omega) (by omega)
  have ey : (Int64.ofInt y).toInt = y := Int64.toInt_ofInt_of_le (by omega) (by omega)
  unfold mi_lcmp lg_cmp
  split
  · rename_i h
    have h := Int64.lt_iff_toInt_lt.mp h
    rw [ex, ey] at h
    exact ⟨⟨fun q => absurd q (by decide), fun q => by omega⟩, by decide⟩
  · rename_i h
    have h : ¬ y < x := fun q => h (Int64.lt_iff_toInt_lt.mpr (by rw [ex, ey]; exact q))
    split
    · rename_i h2
      have h2 := congrArg Int64.toInt h2
      rw [ex, ey] at h2
      exact ⟨⟨fun q => absurd q (by decide), fun q => by omega⟩, by decide⟩
    · rename_i h2
      have h2 : x ≠ y := fun q => h2 (by rw [q])
      exact ⟨⟨fun _ => by omega, fun _ => by decide⟩, by decide⟩
theorem mi_lshl_pw : ∀ k : Nat, k < 31 → ((Int32.ofInt k).toInt64 &&& 63).toBitVec.toNat = k ∧ (((Int32.ofInt k).toInt64 &&& 63).toBitVec.smod 64).toNat = k := by decide +kernel
theorem mi_l64 {x : Int} (h0 : 0 ≤ x) (h1 : x ≤ 2147483647) : ((Int64.ofInt x).toBitVec.toNat : Int) = x := by
  have e : (Int64.ofInt x).toInt = x := Int64.toInt_ofInt_of_le (by omega) (by omega)
  have e2 : (Int64.ofInt x).toBitVec.toInt = x := e
  rw [BitVec.toInt_eq_toNat_cond] at e2
  have hl := (Int64.ofInt x).toBitVec.isLt
  split at e2 <;> omega
theorem mi_lshl_eq {x k : Int} (h0 : 0 ≤ x) (h1 : x ≤ 2147483647) (k0 : 0 ≤ k) (k1 : k ≤ 30) : mi_lshl x k = x * 2 ^ k.toNat := by
  obtain ⟨j, rfl⟩ : ∃ j : Nat, k = j := ⟨k.toNat, by omega⟩
  have hp : (2 : Nat) ^ j ≤ 2 ^ 30 := Nat.pow_le_pow_right (by decide) (by omega)
  have hx := mi_l64 h0 h1
  obtain ⟨y, hy⟩ : ∃ y : Nat, (Int64.ofInt x).toBitVec.toNat = y := ⟨_, rfl⟩
  rw [hy] at hx
  have hm : y * 2 ^ j ≤ 2147483647 * 2 ^ 30 := Nat.mul_le_mul (by omega) hp
  unfold mi_lshl
  have e : (Int64.ofInt x <<< ((Int32.ofInt (j : Int)).toInt64 &&& 63)).toBitVec.toNat = y * 2 ^ j := by
    rw [Int64.toBitVec_shiftLeft, BitVec.shiftLeft_eq', (mi_lshl_pw j (by omega)).2, BitVec.toNat_shiftLeft, hy, Nat.shiftLeft_eq, Nat.mod_eq_of_lt (by omega)]
  show (Int64.ofInt x <<< ((Int32.ofInt (j : Int)).toInt64 &&& 63)).toBitVec.toInt = _
  rw [BitVec.toInt_eq_toNat_cond, e, if_pos (by omega), ← hx]
  simp
theorem mi_lshl_bd {x k : Int} (h0 : 0 ≤ x) (h1 : x ≤ 2147483647) (k0 : 0 ≤ k) (k1 : k ≤ 30) : 0 ≤ mi_lshl x k ∧ mi_lshl x k ≤ 2305843008139952128 := by
  rw [mi_lshl_eq h0 h1 k0 k1]
  have hp : (2 : Int) ^ k.toNat ≤ 2 ^ 30 := mi_pw (by omega)
  have hp0 : (0 : Int) < 2 ^ k.toNat := Int.pow_pos (by decide)
  have k1 : x * 2 ^ k.toNat ≤ 2147483647 * 2 ^ k.toNat := Int.mul_le_mul_of_nonneg_right h1 (by omega)
  have e : (2 : Int) ^ 30 = 1073741824 := by decide
  exact ⟨Int.mul_nonneg h0 (by omega), by omega⟩
theorem ex_bd {n k sum : Int} (hn : 1 ≤ n) (hk : 0 ≤ k) (h : n * 2 ^ k.toNat < sum) (hs : sum ≤ 536870912) : k ≤ 28 := by
  have hp0 : (0 : Int) < 2 ^ k.toNat := Int.pow_pos (by decide)
  have h1 : 1 * 2 ^ k.toNat ≤ n * 2 ^ k.toNat := Int.mul_le_mul_of_nonneg_right hn (by omega)
  apply Int.not_lt.mp
  intro hq
  have h2 : (2 : Int) ^ 29 ≤ 2 ^ k.toNat := mi_pw (by omega)
  have e : (2 : Int) ^ 29 = 536870912 := by decide
  omega
