/-! the class's samples, runs and stops -/
theorem tdh_bd {x : Int} (h : -2147483648 ≤ x ∧ x ≤ 2147483647) : -1073741824 ≤ x.tdiv 2 ∧ x.tdiv 2 ≤ 1073741823 := by
  rcases Int.le_total 0 x with h1 | h1
  · rw [Int.tdiv_eq_ediv_of_nonneg h1]
    omega
  · have e : x.tdiv 2 = -((-x).tdiv 2) := by rw [Int.neg_tdiv, Int.neg_neg]
    have e2 : (-x).tdiv 2 = (-x) / 2 := Int.tdiv_eq_ediv_of_nonneg (by omega)
    rw [e, e2]
    omega
theorem wp_sa12_1 {g : Nat → Int} {q n : Nat} {D : Nat → Nat × Nat} {p : Nat → Nat} {s : Nat → Int} (h : wp q g n D p s) : wp q g n D (up p 1205 (p 104)) s := ⟨h.nb, h.dz, h.r4, h.r6, h.c4, h.c6, h.p1, h.p25, h.p27, h.w1, h.w25, h.w27, h.m9, h.a12, h.a21, h.pp, h.p1, h.s21, h.wo, h.gz⟩
theorem wp_sa21_25 {g : Nat → Int} {q n : Nat} {D : Nat → Nat × Nat} {p : Nat → Nat} {s : Nat → Int} (h : wp q g n D p s) : wp q g n D (up p 2105 (p 2504)) s := ⟨h.nb, h.dz, h.r4, h.r6, h.c4, h.c6, h.p1, h.p25, h.p27, h.w1, h.w25, h.w27, h.m9, h.a12, h.a21, h.pp, h.s12, h.p25, h.wo, h.gz⟩
theorem wp_sa21_27 {g : Nat → Int} {q n : Nat} {D : Nat → Nat × Nat} {p : Nat → Nat} {s : Nat → Int} (h : wp q g n D p s) : wp q g n D (up p 2105 (p 2704)) s := ⟨h.nb, h.dz, h.r4, h.r6, h.c4, h.c6, h.p1, h.p25, h.p27, h.w1, h.w25, h.w27, h.m9, h.a12, h.a21, h.pp, h.s12, h.p27, h.wo, h.gz⟩
set_option maxRecDepth 100000 in
set_option maxHeartbeats 4000000 in
theorem g_closeRow12 {g : Nat → Int} {Zi : Nat → Option (Nat × (Nat → Int))} {d n q : Nat} {D : Nat → Nat × Nat} {s : Nat → Int} {p : Nat → Nat} {c : Nat → Nat → Int} (hd : 0 ≤ d) (hz : zk Zi) (hq : q + 0 ≤ 400000) (hD : wd n p) (hS : bS s) (hC : bC D c) (hW : wp q g n D p s)  : tt Zi d 75 (0, [some (.inr (.inl 12))], [], n, D, s, p, c) (fun R H => R = .inl none ∧ H = (n, D, s, p, c)) := by
  exact tt_rtv rfl rfl ⟨rfl, rfl⟩
