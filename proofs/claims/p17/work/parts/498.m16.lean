/-! the reference reads a sample of a place -/
theorem k_le_q {s : Nat → Int} {t k S : Int} {c : Nat → Nat → Int} {i : Nat} (h : mv s) (hp : pli s t c i) (k0 : 0 ≤ k) (hS : 2 * S ≤ 2 * c 36 i + c 39 i) (h2 : k = 0 ∨ c 39 i * 2 ^ (k - 1).toNat < S) : k ≤ s 3025 ∧ s 3025 ≤ 16 := by
  obtain ⟨p1, p2, p3, p4, p5, p6, p7, p8, p9⟩ := hp
  obtain ⟨q1, q2, q3, q4, q5⟩ := mv_q h
  have e : (k - 1).toNat = k.toNat - 1 := by omega
  rw [e] at h2
  have h3 := ex_q (S := S) (N := c 39 i) (k := k.toNat) (q := qq s) p3 (by omega) (by omega)
  omega
