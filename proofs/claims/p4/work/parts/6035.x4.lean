/-! the reference tells a stop, exactly -/
set_option maxRecDepth 100000 in
set_option maxHeartbeats 4000000 in
theorem y_neighbours {Zi : Nat → Option (Nat × (Nat → Int))} {d n : Nat} {D : Nat → Nat × Nat} {s : Nat → Int} {p : Nat → Nat} {c : Nat → Nat → Int} (hd : 1 ≤ d) (hS : bS s) (hC : bC D c) (T : Nat → Int) (x : Int) (y : Int) (b_x : 0 ≤ x ∧ x ≤ 63) (b_y : 0 ≤ y ∧ y ≤ 63) (hp0 : x < s 3037) (hp1 : tb (s 3037) (s 3039) (s 3017) (c 44) x y) (hp2 : trl T (s 3039) (s 3037) x y (c 44)) : tt Zi d 152 (0, [some (.inr (.inl 30)), some (.inl x), some (.inl y)], [], n, D, s, p, c) (fun R H => ∃ (s' : Nat → Int), R = .inl none ∧ H = (n, D, s', p, c) ∧ bS s' ∧ fr s s' [3041, 3042, 3043, 3044] ∧ ((0 ≤ s' 3041 ∧ s' 3041 ≤ s 3017) ∧ (0 ≤ s' 3042 ∧ s' 3042 ≤ s 3017) ∧ (0 ≤ s' 3043 ∧ s' 3043 ≤ s 3017) ∧ (0 ≤ s' 3044 ∧ s' 3044 ≤ s 3017)) ∧ (s' 3041 = nA T x y) ∧ (s' 3042 = nB T x y) ∧ (s' 3043 = nC T x y) ∧ (s' 3044 = nD T (s 3037) x y)) := by
  refine tt_conj (k_neighbours (Zi := Zi) (D := D) (s := s) (p := p) (c := c) (by omega) hS hC x y b_x b_y hp0 hp1) (x_neighbours (Zi := Zi) (D := D) (s := s) (p := p) (c := c) (by omega) hS hC T x y b_x b_y hp0 hp1 hp2) ?_
  rintro _ _ ⟨s1, rfl, rfl, hS1, f1, k1_0⟩ _ _ ⟨s2, rfl, rfl, hS2, f2, k2_0, k2_1, k2_2, k2_3⟩ hR hH
  have e3041 : s2 3041 = s1 3041 := mk_s hH hS1 hS2 41 (by decide)
  have e3042 : s2 3042 = s1 3042 := mk_s hH hS1 hS2 42 (by decide)
  have e3043 : s2 3043 = s1 3043 := mk_s hH hS1 hS2 43 (by decide)
  have e3044 : s2 3044 = s1 3044 := mk_s hH hS1 hS2 44 (by decide)
  rw [e3041] at k2_0
  rw [e3042] at k2_1
  rw [e3043] at k2_2
  rw [e3044] at k2_3
  exact ⟨s1, rfl, rfl, hS1, f1, k1_0, k2_0, k2_1, k2_2, k2_3⟩
