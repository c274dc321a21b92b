/-! the class writes headers -/
theorem wp_pp1 {g : Nat → Int} {q n : Nat} {D : Nat → Nat × Nat} {p : Nat → Nat} {s : Nat → Int} (h : wp q g n D p s) : wp q g n D (up (up p 8 27) 9 25) s := ⟨h.nb, h.dz, h.r4, h.r6, h.c4, h.c6, h.p1, h.p25, h.p27, h.w1, h.w25, h.w27, h.m9, h.a12, h.a21, Or.inr ⟨rfl, rfl⟩, h.s12, h.s21, h.wo, h.gz⟩
theorem wp_pp2 {g : Nat → Int} {q n : Nat} {D : Nat → Nat × Nat} {p : Nat → Nat} {s : Nat → Int} (h : wp q g n D p s) : wp q g n D (up (up p 8 25) 9 27) s := ⟨h.nb, h.dz, h.r4, h.r6, h.c4, h.c6, h.p1, h.p25, h.p27, h.w1, h.w25, h.w27, h.m9, h.a12, h.a21, Or.inl ⟨rfl, rfl⟩, h.s12, h.s21, h.wo, h.gz⟩
theorem wo_of {g : Nat → Int} {q n : Nat} {D : Nat → Nat × Nat} {p : Nat → Nat} {s : Nat → Int} (hS : bS s) (h : wp q g n D p s) : wo s := by
  have h1 : 1 ≤ s 1602 ∧ s 1602 ≤ 8 := hS 1602
  rcases h.wo with h2 | h2
  · omega
  · exact h2
