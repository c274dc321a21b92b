/-! the potential of the reference's places; what a sample costs -/
abbrev qq (s : Nat → Int) : Nat := (s 3025).toNat
def potf (s : Nat → Int) (c : Nat → Nat → Int) (i : Nat) : Int := if i < 365 then qr_F (16 - qq s) (c 36 i * 2 ^ (16 - qq s)) (c 39 i) else qs_F (16 - qq s) (c 36 i * 2 ^ (16 - qq s)) (c 39 i)
def pot (s : Nat → Int) (c : Nat → Nat → Int) : Int := if s 3026 ≤ 36 then 0 else sm (potf s c) 367
def cb (s : Nat → Int) : Int := if s 3026 ≤ 36 then 1220608 else 1150976
theorem potf_0 {s : Nat → Int} {c : Nat → Nat → Int} {i : Nat} : 0 ≤ potf s c i := by
  unfold potf
  split
  · exact qr_m_0 13
  · exact qs_m_0 13
theorem pot_0 {s : Nat → Int} {c : Nat → Nat → Int} : 0 ≤ pot s c := by
  unfold pot
  split
  · exact Int.le_refl 0
  · exact sm_0 367 (fun j _ => potf_0)
/-- the places are as they must be behind t samples -/
def pli (s : Nat → Int) (t : Int) (c : Nat → Nat → Int) (i : Nat) : Prop :=
  0 ≤ c 36 i ∧ 2 * c 36 i + c 39 i ≤ 2 * (c 39 i * 2 ^ qq s) + 1 ∧ 1 ≤ c 39 i ∧ c 39 i ≤ 1 + t ∧ -65536 ≤ c 37 i ∧ c 37 i ≤ 1 + t ∧ -128 ≤ c 38 i ∧ c 38 i ≤ 127 ∧ (c 39 i = 1 → 512 ≤ c 36 i * 2 ^ (16 - qq s))
def pl (s : Nat → Int) (t : Int) (c : Nat → Nat → Int) : Prop := ∀ i : Nat, i < 367 → pli s t c i
theorem mv_q {s : Nat → Int} (h : mv s) : 1 ≤ qq s ∧ qq s ≤ 16 ∧ (qq s : Int) = s 3025 ∧ s 3024 ≤ 2 ^ qq s ∧ 2 ^ (qq s - 1) < s 3024 := by
  obtain ⟨h1, h2, h3, h4⟩ := h.2.2.2.2.2.2.2.1
  have e : (s 3025 - 1).toNat = (s 3025).toNat - 1 := by omega
  rw [e] at h4
  refine ⟨by show 1 ≤ (s 3025).toNat; omega, by show (s 3025).toNat ≤ 16; omega, by show ((s 3025).toNat : Int) = _; omega, h3, h4⟩
theorem pw_16 {q : Nat} (h : q ≤ 16) : (2 : Int) ^ q * 2 ^ (16 - q) = 65536 := by
  rw [← Int.pow_add, show q + (16 - q) = 16 by omega]
  decide
/-- the exponent is at most q -/
theorem ex_q {S N : Int} {k q : Nat} (hN : 1 ≤ N) (hS : S ≤ N * 2 ^ q) (h2 : k = 0 ∨ N * 2 ^ (k - 1) < S) : k ≤ q := by
  rcases h2 with h2 | h2
  · omega
  · apply Nat.le_of_not_lt
    intro hq
    have h3 : (2 : Int) ^ q ≤ 2 ^ (k - 1) := mi_pw (by omega)
    have h4 : N * 2 ^ q ≤ N * 2 ^ (k - 1) := Int.mul_le_mul_of_nonneg_left h3 (by omega)
    omega
theorem z_le {m : Int} {k : Nat} (hm : 0 ≤ m) : 0 ≤ m / 2 ^ k ∧ m / 2 ^ k * 2 ^ k ≤ m := by
  have hp : (0 : Int) < 2 ^ k := Int.pow_pos (by decide)
  exact ⟨Int.ediv_nonneg hm (by omega), Int.ediv_mul_le m (by omega)⟩
/-- what is so of a number and its exponent, in a scan -/
theorem z_16 {s : Nat → Int} (h : mv s) {m : Int} {k : Nat} (hm : 0 ≤ m) (hr : m ≤ s 3024) : m / 2 ^ k * 2 ^ k * 2 ^ (16 - qq s) ≤ 65536 := by
  obtain ⟨h1, h2, h3, h4, h5⟩ := mv_q h
  have h6 := (z_le (k := k) hm).2
  have hp : (0 : Int) ≤ 2 ^ (16 - qq s) := Int.le_of_lt (Int.pow_pos (by decide))
  have h7 : m / 2 ^ k * 2 ^ k * 2 ^ (16 - qq s) ≤ 2 ^ qq s * 2 ^ (16 - qq s) := Int.mul_le_mul_of_nonneg_right (by omega) hp
  rw [pw_16 h2] at h7
  exact h7
/-- a place's sample: C is what its bits cost -/
theorem reg_F {s : Nat → Int} (h : mv s) (hl : 40 ≤ s 3026) {A N E m C A2 N2 : Int} {k : Nat} (hN : 1 ≤ N) (hA : 0 ≤ A) (hAN : 2 * A + N ≤ 2 * (N * 2 ^ qq s) + 1) (hN1 : N = 1 → 512 ≤ A * 2 ^ (16 - qq s)) (hE : 0 ≤ E) (h1 : A ≤ N * 2 ^ k) (h2 : k = 0 ∨ N * 2 ^ (k - 1) < A) (hm0 : 0 ≤ m) (hmr : m ≤ s 3024) (hm1 : m ≤ 2 * E + 1) (hm2 : k ≠ 0 → m ≤ 2 * E)
    (hC : (m / 2 ^ k < s 3026 - s 3025 - 1 ∧ C ≤ 8 * (m / 2 ^ k) + 9 + 9 * k) ∨ (s 3026 - s 3025 - 1 ≤ m / 2 ^ k ∧ C ≤ 8 * (s 3026 - s 3025 - 1) + 9 + 9 * s 3025))
    (hm : (A2 = A + E ∧ N2 = N + 1) ∨ (3 ≤ N ∧ A2 = (A + E) / 2 ∧ N2 = N / 2 + 1)) : k ≤ qq s ∧ 4096 * C + qr_F (16 - qq s) (A2 * 2 ^ (16 - qq s)) N2 ≤ 1150976 + qr_F (16 - qq s) (A * 2 ^ (16 - qq s)) N := by
  have hq := mv_q h
  have hx := mv_fx h
  have hkq : k ≤ qq s := ex_q hN (by omega) h2
  refine ⟨hkq, ?_⟩
  obtain ⟨z0, z1⟩ := z_le (m := m) (k := k) hm0
  refine qr_step (k := k) (z := m / 2 ^ k) (E := E) (by omega) hN hN1 z0 hE h1 h2 (z_16 h hm0 hmr) (by omega) (fun hk => by have := hm2 hk; omega) ?_ ?_ hm
  · rcases hC with ⟨c1, c2⟩ | ⟨c1, c2⟩ <;> omega
  · rcases hC with ⟨c1, c2⟩ | ⟨c1, c2⟩
    · exact Or.inl (by omega)
    · refine Or.inr ?_
      by_cases hg : qq s = 16
      · exact Or.inl ⟨by omega, by omega, by omega⟩
      · exact Or.inr ⟨by omega, by omega, by omega⟩
/-- a stop: J is the pace's part, C what its bits cost without those of the run's rest -/
theorem stop_F {s : Nat → Int} (h : mv s) (hl : 40 ≤ s 3026) {A N E m C A2 N2 J S : Int} {k : Nat} (hN : 1 ≤ N) (hA : 0 ≤ A) (hAN : 2 * A + N ≤ 2 * (N * 2 ^ qq s) + 1) (hN1 : N = 1 → 512 ≤ A * 2 ^ (16 - qq s)) (hE : 0 ≤ E) (hS : A ≤ S ∧ S ≤ A + N / 2) (h1 : S ≤ N * 2 ^ k) (h2 : k = 0 ∨ N * 2 ^ (k - 1) < S) (hm0 : 0 ≤ m) (hmr : m ≤ s 3024) (hm1 : m ≤ 2 * E + 1) (hJ : 0 ≤ J ∧ J ≤ 15)
    (hC : (m / 2 ^ k < s 3026 - 1 - J - s 3025 - 1 ∧ C ≤ 8 + (8 * (m / 2 ^ k) + 9 + 9 * k)) ∨ (s 3026 - 1 - J - s 3025 - 1 ≤ m / 2 ^ k ∧ C ≤ 8 + (8 * (s 3026 - 1 - J - s 3025 - 1) + 9 + 9 * s 3025)))
    (hm : (A2 = A + E ∧ N2 = N + 1) ∨ (3 ≤ N ∧ A2 = (A + E) / 2 ∧ N2 = N / 2 + 1)) : k ≤ qq s ∧ 4096 * C + qs_F (16 - qq s) (A2 * 2 ^ (16 - qq s)) N2 ≤ 1150976 + qs_F (16 - qq s) (A * 2 ^ (16 - qq s)) N := by
  have hq := mv_q h
  have hx := mv_fx h
  have hkq : k ≤ qq s := ex_q (S := S) hN (by omega) h2
  refine ⟨hkq, ?_⟩
  obtain ⟨z0, z1⟩ := z_le (m := m) (k := k) hm0
  refine qs_step (k := k) (z := m / 2 ^ k) (E := E) (by omega) hN hN1 z0 hE (by omega) (h2.imp id (fun q => by omega)) (z_16 h hm0 hmr) (by omega) ?_ ?_ hm
  · rcases hC with ⟨c1, c2⟩ | ⟨c1, c2⟩ <;> omega
  · rcases hC with ⟨c1, c2⟩ | ⟨c1, c2⟩
    · exact Or.inl (by omega)
    · refine Or.inr ?_
      by_cases hg : qq s = 16
      · exact Or.inl ⟨by omega, by omega, by omega⟩
      · exact Or.inr ⟨by omega, by omega, by omega⟩
/-- one place has changed -/
theorem pot_up {s : Nat → Int} {c c' : Nat → Nat → Int} {i : Nat} (hi : i < 367) (h36 : ∀ j, j ≠ i → c' 36 j = c 36 j) (h39 : ∀ j, j ≠ i → c' 39 j = c 39 j) (hl : 40 ≤ s 3026) : pot s c' = pot s c + potf s c' i - potf s c i := by
  unfold pot
  rw [if_neg (by omega), if_neg (by omega)]
  refine sm_up 367 hi (fun j _ hj => ?_)
  unfold potf
  rw [h36 j hj, h39 j hj]
/-- the places behind one sample more -/
theorem pli_next {s : Nat → Int} (h : mv s) {t E : Int} {c c' : Nat → Nat → Int} {i : Nat} (ht : 0 ≤ t) (hi : pli s t c i) (hE : 0 ≤ E) (hEr : 2 * E ≤ s 3024 + 1) (hA : c' 36 i = if c 39 i = s 3022 then (c 36 i + E) / 2 else c 36 i + E) (hN : c' 39 i = (if c 39 i = s 3022 then c 39 i / 2 else c 39 i) + 1) (hB : -65536 ≤ c' 37 i ∧ c' 37 i ≤ 2 + t) (hC : -128 ≤ c' 38 i ∧ c' 38 i ≤ 127) : pli s (t + 1) c' i := by
  obtain ⟨p1, p2, p3, p4, p5, p6, p7, p8, p9⟩ := hi
  obtain ⟨q1, q2, q3, q4, q5⟩ := mv_q h
  have hx := mv_fx h
  have hw : (2 : Int) ≤ 2 ^ qq s := by have := mi_pw (a := 1) (b := qq s) q1; simpa using this
  have hev : (2 : Int) ^ qq s = 2 * 2 ^ (qq s - 1) := by
    have e : qq s = (qq s - 1) + 1 := by omega
    have e2 : (2 : Int) ^ ((qq s - 1) + 1) = 2 ^ (qq s - 1) * 2 := Int.pow_succ 2 (qq s - 1)
    rw [← e] at e2
    omega
  refine ⟨?_, ?_, ?_, ?_, hB.1, by omega, hC.1, hC.2, ?_⟩
  · rw [hA]; split <;> omega
  · rw [hA, hN]
    split
    · -- N is HALVING
      have e1 : (c 39 i / 2 + 1) * 2 ^ qq s = c 39 i / 2 * 2 ^ qq s + 2 ^ qq s := by rw [Int.add_mul, Int.one_mul]
      have e2 : (c 39 i - 1) * 2 ^ qq s ≤ (2 * (c 39 i / 2)) * 2 ^ qq s := Int.mul_le_mul_of_nonneg_right (by omega) (by omega)
      rw [Int.sub_mul, Int.one_mul, Int.mul_assoc] at e2
      rw [e1]
      omega
    · have e1 : (c 39 i + 1) * 2 ^ qq s = c 39 i * 2 ^ qq s + 2 ^ qq s := by rw [Int.add_mul, Int.one_mul]
      rw [e1]
      omega
  · rw [hN]; split <;> omega
  · rw [hN]; split <;> omega
  · intro h1
    exfalso
    rw [hN] at h1
    split at h1 <;> omega
