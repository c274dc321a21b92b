/-! the reference tells a stop -/
theorem psi_d {p : Int} (h : 0 < p) : psi (p - 1) = psi p - 9 * jj p := by
  have hx := psi_s (p := p - 1) (by omega)
  rw [Int.sub_add_cancel] at hx
  omega
theorem tdv2 {x lo hi : Int} (h1 : lo ≤ x) (h2 : x ≤ hi) (l0 : lo ≤ 0) (h0 : 0 ≤ hi) : lo ≤ x.tdiv 2 ∧ x.tdiv 2 ≤ hi := by
  rcases Int.le_total 0 x with h | h
  · rw [Int.tdiv_eq_ediv_of_nonneg h]
    omega
  · have e : x.tdiv 2 = -((-x).tdiv 2) := by rw [Int.neg_tdiv, Int.neg_neg]
    have e2 : (-x).tdiv 2 = (-x) / 2 := Int.tdiv_eq_ediv_of_nonneg (by omega)
    rw [e, e2]
    omega
theorem psi_z {p : Int} (h0 : 0 ≤ p) (h : p ≤ 0) : psi 0 = psi p - 9 * jj p := by
  have e : p = 0 := by omega
  subst e
  decide
theorem psi_jj {p : Int} (h0 : 0 ≤ p) : 9 * jj p ≤ psi p := by
  by_cases h : 0 < p
  · have h1 := psi_d h
    have h2 := psi_0 (p := p - 1)
    omega
  · have h1 := psi_z h0 (by omega)
    have h2 := psi_0 (p := 0)
    omega
set_option maxRecDepth 100000 in
set_option maxHeartbeats 4000000 in
theorem k_piecesJ {Zi : Nat → Option (Nat × (Nat → Int))} {d n : Nat} {D : Nat → Nat × Nat} {s : Nat → Int} {p : Nat → Nat} {c : Nat → Nat → Int} (hd : 0 ≤ d) (hS : bS s) (hC : bC D c) (hp0 : 0 ≤ s 3035 ∧ s 3035 ≤ 22) : tt Zi d 158 (0, [some (.inr (.inl 30))], [], n, D, s, p, c) (fun R H => ∃ (r : Int), R = .inl (some (.inl r)) ∧ H = (n, D, s, p, c) ∧ (0 ≤ r ∧ r ≤ 7) ∧ (r = jj (s 3035))) := by
  refine tt_k 3 (S' := (6, [some (.inr (.inl 30))], [.inl 16, .inl (s 3035)], n, D, s, p, c)) rfl ?_
  have b1 : 0 ≤ (s 3035) ∧ (s 3035) ≤ 31 := hS 3035
  refine tb_ge (x := (s 3035)) (y := 16) rfl rfl (by omega) (fun h2 => ?_) (fun h2 => ?_)
  · show tt Zi d 158 (18, [some (.inr (.inl 30))], [], n, D, s, p, c) _
    refine tt_k 3 (S' := (24, [some (.inr (.inl 30))], [.inl 24, .inl (s 3035)], n, D, s, p, c)) rfl ?_
    refine tb_ge (x := (s 3035)) (y := 24) rfl rfl (by omega) (fun h3 => ?_) (fun h3 => ?_)
    · exfalso; omega
    · show tt Zi d 158 (27, [some (.inr (.inl 30))], [], n, D, s, p, c) _
      refine tt_k 6 (S' := (36, [some (.inr (.inl 30))], [.inl 2, .inl ((s 3035) - 16), .inl 4], n, D, s, p, c)) rfl ?_
      refine tt_dvp (x := ((s 3035) - 16)) (y := 2) rfl (by omega) ?_
      show tt Zi d 158 (37, [some (.inr (.inl 30))], [.inl ((((s 3035) - 16) / 2)), .inl 4], n, D, s, p, c) _
      refine tt_k 2 (S' := (48, [some (.inr (.inl 30))], [.inl ((4 + (((s 3035) - 16) / 2)))], n, D, s, p, c)) rfl ?_
      exact tt_rti rfl rfl ⟨(4 + (((s 3035) - 16) / 2)), rfl, rfl, by omega, by show ((4 + (((s 3035) - 16) / 2))) = jj (s 3035); unfold jj; (try split) <;> (try split) <;> omega⟩
  · show tt Zi d 158 (9, [some (.inr (.inl 30))], [], n, D, s, p, c) _
    refine tt_k 3 (S' := (14, [some (.inr (.inl 30))], [.inl 4, .inl (s 3035)], n, D, s, p, c)) rfl ?_
    refine tt_dvp (x := (s 3035)) (y := 4) rfl (by omega) ?_
    show tt Zi d 158 (15, [some (.inr (.inl 30))], [.inl ((s 3035) / 4)], n, D, s, p, c) _
    refine tt_k 1 (S' := (48, [some (.inr (.inl 30))], [.inl ((s 3035) / 4)], n, D, s, p, c)) rfl ?_
    exact tt_rti rfl rfl ⟨((s 3035) / 4), rfl, rfl, by omega, by show ((s 3035) / 4) = jj (s 3035); unfold jj; (try split) <;> (try split) <;> omega⟩
