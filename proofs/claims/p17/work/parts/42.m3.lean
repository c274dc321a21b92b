/-! the reference's numbers of one sample -/
set_option maxRecDepth 100000 in
set_option maxHeartbeats 4000000 in
theorem k_told {Zi : Nat → Option (Nat × (Nat → Int))} {d n : Nat} {D : Nat → Nat × Nat} {s : Nat → Int} {p : Nat → Nat} {c : Nat → Nat → Int} (hd : 0 ≤ d) (hS : bS s) (hC : bC D c) (x : Int) (y : Int) (b_x : 0 ≤ x ∧ x ≤ 63) (b_y : 0 ≤ y ∧ y ≤ 63) : tt Zi d 153 (0, [some (.inr (.inl 30)), some (.inl x), some (.inl y)], [], n, D, s, p, c) (fun R H => ∃ (r : Int), R = .inl (some (.inl r)) ∧ H = (n, D, s, p, c) ∧ (0 ≤ r ∧ r ≤ 65535) ∧ (r = c 44 (s 3039 + 64 * y + x).toNat)) := by
  refine tt_k 10 (S' := (15, [some (.inr (.inl 30)), some (.inl x), some (.inl y)], [.inl ((((s 3039) + (64 * y)) + x)), .inr (.inl 44)], n, D, s, p, c)) rfl ?_
  have b1 : 0 ≤ (s 3039) ∧ (s 3039) ≤ 8192 := hS 3039
  refine tt_ildv (i := (((s 3039) + (64 * y)) + x)) (v := (c 44 ((((s 3039) + (64 * y)) + x)).toNat)) rfl rfl (by omega) rfl ?_
  show tt Zi d 153 (16, [some (.inr (.inl 30)), some (.inl x), some (.inl y)], [.inl ((c 44 ((((s 3039) + (64 * y)) + x)).toNat))], n, D, s, p, c) _
  have b2 : 0 ≤ (c 44 ((((s 3039) + (64 * y)) + x)).toNat) ∧ (c 44 ((((s 3039) + (64 * y)) + x)).toNat) ≤ 65535 := hC 44 _
  exact tt_rti rfl rfl ⟨(c 44 ((((s 3039) + (64 * y)) + x)).toNat), rfl, rfl, by omega, rfl⟩
set_option maxRecDepth 100000 in
set_option maxHeartbeats 4000000 in
theorem k_floorHalf {Zi : Nat → Option (Nat × (Nat → Int))} {d n : Nat} {D : Nat → Nat × Nat} {s : Nat → Int} {p : Nat → Nat} {c : Nat → Nat → Int} (hd : 0 ≤ d) (hS : bS s) (hC : bC D c) (v : Int) (b_v : -1000000000 ≤ v ∧ v ≤ 1000000000) : tt Zi d 175 (0, [some (.inr (.inl 30)), some (.inl v)], [], n, D, s, p, c) (fun R H => ∃ (r : Int), R = .inl (some (.inl r)) ∧ H = (n, D, s, p, c) ∧ (-1000000000 ≤ r ∧ r ≤ 1000000000) ∧ (r = v / 2)) := by
  refine tt_k 1 (S' := (1, [some (.inr (.inl 30)), some (.inl v)], [.inl v], n, D, s, p, c)) rfl ?_
  refine tz_ge (x := v) rfl rfl (by omega) (fun h1 => ?_) (fun h1 => ?_)
  · show tt Zi d 175 (13, [some (.inr (.inl 30)), some (.inl v)], [], n, D, s, p, c) _
    refine tt_k 2 (S' := (15, [some (.inr (.inl 30)), some (.inl v)], [.inl 2, .inl v], n, D, s, p, c)) rfl ?_
    refine tt_dvp (x := v) (y := 2) rfl (by omega) ?_
    show tt Zi d 175 (16, [some (.inr (.inl 30)), some (.inl v)], [.inl (v / 2)], n, D, s, p, c) _
    exact tt_rti rfl rfl ⟨(v / 2), rfl, rfl, by omega, by show (v / 2) = v / 2; omega⟩
  · show tt Zi d 175 (4, [some (.inr (.inl 30)), some (.inl v)], [], n, D, s, p, c) _
    refine tt_k 4 (S' := (8, [some (.inr (.inl 30)), some (.inl v)], [.inl 2, .inl (1 - v)], n, D, s, p, c)) rfl ?_
    refine tt_dvp (x := (1 - v)) (y := 2) rfl (by omega) ?_
    show tt Zi d 175 (9, [some (.inr (.inl 30)), some (.inl v)], [.inl ((1 - v) / 2)], n, D, s, p, c) _
    refine tt_k 2 (S' := (16, [some (.inr (.inl 30)), some (.inl v)], [.inl ((-((1 - v) / 2)))], n, D, s, p, c)) rfl ?_
    exact tt_rti rfl rfl ⟨(-((1 - v) / 2)), rfl, rfl, by omega, by show ((-((1 - v) / 2))) = v / 2; omega⟩
set_option maxRecDepth 100000 in
set_option maxHeartbeats 4000000 in
theorem k_isError {Zi : Nat → Option (Nat × (Nat → Int))} {d n : Nat} {D : Nat → Nat × Nat} {s : Nat → Int} {p : Nat → Nat} {c : Nat → Nat → Int} (hd : 0 ≤ d) (hS : bS s) (hC : bC D c) (e : Int) (b_e : -2147483648 ≤ e ∧ e ≤ 2147483647) (hp0 : 1 ≤ s 3024 ∧ s 3024 ≤ 65536) : tt Zi d 170 (0, [some (.inr (.inl 30)), some (.inl e)], [], n, D, s, p, c) (fun R H => ∃ (r : Int), R = .inl (some (.inl r)) ∧ H = (n, D, s, p, c) ∧ (0 ≤ r ∧ r ≤ 1) ∧ ((r = 1 ∧ -(s 3024 / 2) ≤ e ∧ e ≤ (s 3024 - 1) / 2) ∨ (r = 0 ∧ ¬ (-(s 3024 / 2) ≤ e ∧ e ≤ (s 3024 - 1) / 2)))) := by
  refine tt_k 4 (S' := (6, [some (.inr (.inl 30)), some (.inl e)], [.inl 2, .inl (s 3024), .inl e], n, D, s, p, c)) rfl ?_
  have b1 : -2147483648 ≤ (s 3024) ∧ (s 3024) ≤ 2147483647 := hS 3024
  refine tt_dvp (x := (s 3024)) (y := 2) rfl (by omega) ?_
  show tt Zi d 170 (7, [some (.inr (.inl 30)), some (.inl e)], [.inl ((s 3024) / 2), .inl e], n, D, s, p, c) _
  refine tt_k 1 (S' := (8, [some (.inr (.inl 30)), some (.inl e)], [.inl ((-((s 3024) / 2))), .inl e], n, D, s, p, c)) rfl ?_
  refine tb_lt (x := e) (y := (-((s 3024) / 2))) rfl rfl (by omega) (fun h2 => ?_) (fun h2 => ?_)
  · show tt Zi d 170 (27, [some (.inr (.inl 30)), some (.inl e)], [], n, D, s, p, c) _
    refine tt_k 1 (S' := (28, [some (.inr (.inl 30)), some (.inl e)], [.inl 0], n, D, s, p, c)) rfl ?_
    exact tt_rtb rfl rfl (by omega) ⟨0, rfl, rfl, by omega, by show (0 = 1 ∧ -(s 3024 / 2) ≤ e ∧ e ≤ (s 3024 - 1) / 2) ∨ (0 = 0 ∧ ¬ (-(s 3024 / 2) ≤ e ∧ e ≤ (s 3024 - 1) / 2)); omega⟩
  · show tt Zi d 170 (11, [some (.inr (.inl 30)), some (.inl e)], [], n, D, s, p, c) _
    refine tt_k 6 (S' := (19, [some (.inr (.inl 30)), some (.inl e)], [.inl 2, .inl ((s 3024) - 1), .inl e], n, D, s, p, c)) rfl ?_
    refine tt_dvp (x := ((s 3024) - 1)) (y := 2) rfl (by omega) ?_
    show tt Zi d 170 (20, [some (.inr (.inl 30)), some (.inl e)], [.inl ((((s 3024) - 1) / 2)), .inl e], n, D, s, p, c) _
    refine tb_gt (x := e) (y := (((s 3024) - 1) / 2)) rfl rfl (by omega) (fun h3 => ?_) (fun h3 => ?_)
    · show tt Zi d 170 (27, [some (.inr (.inl 30)), some (.inl e)], [], n, D, s, p, c) _
      refine tt_k 1 (S' := (28, [some (.inr (.inl 30)), some (.inl e)], [.inl 0], n, D, s, p, c)) rfl ?_
      exact tt_rtb rfl rfl (by omega) ⟨0, rfl, rfl, by omega, by show (0 = 1 ∧ -(s 3024 / 2) ≤ e ∧ e ≤ (s 3024 - 1) / 2) ∨ (0 = 0 ∧ ¬ (-(s 3024 / 2) ≤ e ∧ e ≤ (s 3024 - 1) / 2)); omega⟩
    · show tt Zi d 170 (23, [some (.inr (.inl 30)), some (.inl e)], [], n, D, s, p, c) _
      refine tt_k 2 (S' := (28, [some (.inr (.inl 30)), some (.inl e)], [.inl 1], n, D, s, p, c)) rfl ?_
      exact tt_rtb rfl rfl (by omega) ⟨1, rfl, rfl, by omega, by show (1 = 1 ∧ -(s 3024 / 2) ≤ e ∧ e ≤ (s 3024 - 1) / 2) ∨ (1 = 0 ∧ ¬ (-(s 3024 / 2) ≤ e ∧ e ≤ (s 3024 - 1) / 2)); omega⟩
set_option maxRecDepth 100000 in
set_option maxHeartbeats 4000000 in
theorem k_errorOf {Zi : Nat → Option (Nat × (Nat → Int))} {d n : Nat} {D : Nat → Nat × Nat} {s : Nat → Int} {p : Nat → Nat} {c : Nat → Nat → Int} (hd : 0 ≤ d) (hS : bS s) (hC : bC D c) (x : Int) (b_x : 0 ≤ x ∧ x ≤ 65535) (hp0 : mv s) (hp1 : x ≤ s 3017 ∧ 0 ≤ s 3045 ∧ s 3045 ≤ s 3017) : tt Zi d 163 (0, [some (.inr (.inl 30)), some (.inl x), none], [], n, D, s, p, c) (fun R H => ∃ (r : Int), R = .inl (some (.inl r)) ∧ H = (n, D, s, p, c) ∧ (-65536 ≤ r ∧ r ≤ 65536) ∧ (-(s 3024 / 2) ≤ r ∧ r ≤ (s 3024 - 1) / 2) ∧ ((s 3018 < x - s 3045 ∨ s 3018 < s 3045 - x) → r ≠ 0)) := by
  have mvx := mv_fx hp0
  refine tt_k 2 (S' := (4, [some (.inr (.inl 30)), some (.inl x), none], [.inl (s 3046)], n, D, s, p, c)) rfl ?_
  have b1 : 0 ≤ (s 3046) ∧ (s 3046) ≤ 1 := hS 3046
  have K3 : ∀ (j2 : Int) , (-131070 ≤ j2 ∧ j2 ≤ 131070) → (((s 3046) = 0 ∧ j2 = (x - (s 3045))) ∨ ((s 3046) ≠ 0 ∧ j2 = ((s 3045) - x))) → tt Zi d 163 (22, [some (.inr (.inl 30)), some (.inl x), none], [.inl j2], n, D, s, p, c) (fun R H => ∃ (r : Int), R = .inl (some (.inl r)) ∧ H = (n, D, s, p, c) ∧ (-65536 ≤ r ∧ r ≤ 65536) ∧ (-(s 3024 / 2) ≤ r ∧ r ≤ (s 3024 - 1) / 2) ∧ ((s 3018 < x - s 3045 ∨ s 3018 < s 3045 - x) → r ≠ 0)) := by
    intro j2 b5 hj4
    have b6 : -65535 ≤ (s 3045) ∧ (s 3045) ≤ 131070 := hS 3045
    refine tt_k 2 (S' := (24, [some (.inr (.inl 30)), some (.inl x), some (.inl j2)], [.inl j2], n, D, s, p, c)) rfl ?_
    have K8 : ∀ (j7 : Int) , (-131325 ≤ j7 ∧ j7 ≤ 131325) → (-(s 3024 - 1) ≤ j7 ∧ j7 ≤ s 3024 - 1) → ((s 3018 < j2 → 1 ≤ j7) ∧ (j2 < -(s 3018) → j7 ≤ -1)) → ((j2 ≤ 0 ∧ j7 = (-(((s 3018) - j2) / (s 3023)))) ∨ (0 < j2 ∧ j7 = ((j2 + (s 3018)) / (s 3023)))) → tt Zi d 163 (53, [some (.inr (.inl 30)), some (.inl x), some (.inl j2)], [.inl j7], n, D, s, p, c) (fun R H => ∃ (r : Int), R = .inl (some (.inl r)) ∧ H = (n, D, s, p, c) ∧ (-65536 ≤ r ∧ r ≤ 65536) ∧ (-(s 3024 / 2) ≤ r ∧ r ≤ (s 3024 - 1) / 2) ∧ ((s 3018 < x - s 3045 ∨ s 3018 < s 3045 - x) → r ≠ 0)) := by
      intro j7 b10 b11 b12 hj9
      have b13 : -2147483648 ≤ (s 3018) ∧ (s 3018) ≤ 2147483647 := hS 3018
      have b14 : -2147483648 ≤ (s 3023) ∧ (s 3023) ≤ 2147483647 := hS 3023
      refine tt_k 2 (S' := (55, [some (.inr (.inl 30)), some (.inl x), some (.inl j7)], [.inl j7], n, D, s, p, c)) rfl ?_
      have K16 : ∀ (j15 : Int) , (-131323 ≤ j15 ∧ j15 ≤ 131325) → ((0 ≤ j7 ∧ j15 = j7) ∨ (j7 < 0 ∧ j15 = (j7 + (s 3024)))) → tt Zi d 163 (68, [some (.inr (.inl 30)), some (.inl x), some (.inl j7)], [.inl j15], n, D, s, p, c) (fun R H => ∃ (r : Int), R = .inl (some (.inl r)) ∧ H = (n, D, s, p, c) ∧ (-65536 ≤ r ∧ r ≤ 65536) ∧ (-(s 3024 / 2) ≤ r ∧ r ≤ (s 3024 - 1) / 2) ∧ ((s 3018 < x - s 3045 ∨ s 3018 < s 3045 - x) → r ≠ 0)) := by
        intro j15 b18 hj17
        have b19 : -2147483648 ≤ (s 3024) ∧ (s 3024) ≤ 2147483647 := hS 3024
        refine tt_k 7 (S' := (77, [some (.inr (.inl 30)), some (.inl x), some (.inl j15)], [.inl 2, .inl ((s 3024) + 1), .inl j15], n, D, s, p, c)) rfl ?_
        refine tt_dvp (x := ((s 3024) + 1)) (y := 2) rfl (by omega) ?_
        show tt Zi d 163 (78, [some (.inr (.inl 30)), some (.inl x), some (.inl j15)], [.inl ((((s 3024) + 1) / 2)), .inl j15], n, D, s, p, c) _
        refine tb_lt (x := j15) (y := (((s 3024) + 1) / 2)) rfl rfl (by omega) (fun h20 => ?_) (fun h20 => ?_)
        · show tt Zi d 163 (90, [some (.inr (.inl 30)), some (.inl x), some (.inl j15)], [], n, D, s, p, c) _
          refine tt_k 1 (S' := (91, [some (.inr (.inl 30)), some (.inl x), some (.inl j15)], [.inl j15], n, D, s, p, c)) rfl ?_
          exact tt_rti rfl rfl ⟨j15, rfl, rfl, by omega, by show -(s 3024 / 2) ≤ j15 ∧ j15 ≤ (s 3024 - 1) / 2; omega, by show (s 3018 < x - s 3045 ∨ s 3018 < s 3045 - x) → j15 ≠ 0; omega⟩
        · show tt Zi d 163 (81, [some (.inr (.inl 30)), some (.inl x), some (.inl j15)], [], n, D, s, p, c) _
          refine tt_k 5 (S' := (91, [some (.inr (.inl 30)), some (.inl x), some (.inl j15)], [.inl (j15 - (s 3024))], n, D, s, p, c)) rfl ?_
          exact tt_rti rfl rfl ⟨(j15 - (s 3024)), rfl, rfl, by omega, by show -(s 3024 / 2) ≤ (j15 - (s 3024)) ∧ (j15 - (s 3024)) ≤ (s 3024 - 1) / 2; omega, by show (s 3018 < x - s 3045 ∨ s 3018 < s 3045 - x) → (j15 - (s 3024)) ≠ 0; omega⟩
      refine tz_ge (x := j7) rfl rfl (by omega) (fun h21 => ?_) (fun h21 => ?_)
      · show tt Zi d 163 (67, [some (.inr (.inl 30)), some (.inl x), some (.inl j7)], [], n, D, s, p, c) _
        refine tt_k 1 (S' := (68, [some (.inr (.inl 30)), some (.inl x), some (.inl j7)], [.inl j7], n, D, s, p, c)) rfl ?_
        exact K16 j7  (by omega) (Or.inl ⟨h21, rfl⟩)
      · show tt Zi d 163 (58, [some (.inr (.inl 30)), some (.inl x), some (.inl j7)], [], n, D, s, p, c) _
        refine tt_k 5 (S' := (68, [some (.inr (.inl 30)), some (.inl x), some (.inl j7)], [.inl (j7 + (s 3024))], n, D, s, p, c)) rfl ?_
        have b22 : -2147483648 ≤ (s 3024) ∧ (s 3024) ≤ 2147483647 := hS 3024
        exact K16 (j7 + (s 3024))  (by omega) (Or.inr (⟨h21, rfl⟩))
    refine tz_le (x := j2) rfl rfl (by omega) (fun h23 => ?_) (fun h23 => ?_)
    · show tt Zi d 163 (41, [some (.inr (.inl 30)), some (.inl x), some (.inl j2)], [], n, D, s, p, c) _
      refine tt_k 6 (S' := (51, [some (.inr (.inl 30)), some (.inl x), some (.inl j2)], [.inl (s 3023), .inl ((s 3018) - j2)], n, D, s, p, c)) rfl ?_
      have b24 : -2147483648 ≤ (s 3018) ∧ (s 3018) ≤ 2147483647 := hS 3018
      have b25 : -2147483648 ≤ (s 3023) ∧ (s 3023) ≤ 2147483647 := hS 3023
      refine tt_dvp (x := ((s 3018) - j2)) (y := (s 3023)) rfl (by omega) ?_
      show tt Zi d 163 (52, [some (.inr (.inl 30)), some (.inl x), some (.inl j2)], [.inl ((((s 3018) - j2) / (s 3023)))], n, D, s, p, c) _
      have b26 : 0 ≤ (((s 3018) - j2) / (s 3023)) ∧ (((s 3018) - j2) / (s 3023)) ≤ ((s 3018) - j2) := td_le (by omega) (by omega)
      have b27 := mv_div hp0 (x := ((s 3018) - j2)) (by omega)
      have b28 : (s 3023) ≤ ((s 3018) - j2) → 1 ≤ (((s 3018) - j2) / (s 3023)) := fun hq => dv_ge1 (by omega) hq
      refine tt_k 1 (S' := (53, [some (.inr (.inl 30)), some (.inl x), some (.inl j2)], [.inl ((-(((s 3018) - j2) / (s 3023))))], n, D, s, p, c)) rfl ?_
      exact K8 ((-(((s 3018) - j2) / (s 3023))))  (by omega) (by omega) (by omega) (Or.inl ⟨h23, rfl⟩)
    · show tt Zi d 163 (27, [some (.inr (.inl 30)), some (.inl x), some (.inl j2)], [], n, D, s, p, c) _
      refine tt_k 6 (S' := (37, [some (.inr (.inl 30)), some (.inl x), some (.inl j2)], [.inl (s 3023), .inl (j2 + (s 3018))], n, D, s, p, c)) rfl ?_
      have b29 : -2147483648 ≤ (s 3018) ∧ (s 3018) ≤ 2147483647 := hS 3018
      have b30 : -2147483648 ≤ (s 3023) ∧ (s 3023) ≤ 2147483647 := hS 3023
      refine tt_dvp (x := (j2 + (s 3018))) (y := (s 3023)) rfl (by omega) ?_
      show tt Zi d 163 (38, [some (.inr (.inl 30)), some (.inl x), some (.inl j2)], [.inl (((j2 + (s 3018)) / (s 3023)))], n, D, s, p, c) _
      have b31 : 0 ≤ ((j2 + (s 3018)) / (s 3023)) ∧ ((j2 + (s 3018)) / (s 3023)) ≤ (j2 + (s 3018)) := td_le (by omega) (by omega)
      have b32 := mv_div hp0 (x := (j2 + (s 3018))) (by omega)
      have b33 : (s 3023) ≤ (j2 + (s 3018)) → 1 ≤ ((j2 + (s 3018)) / (s 3023)) := fun hq => dv_ge1 (by omega) hq
      refine tt_k 1 (S' := (53, [some (.inr (.inl 30)), some (.inl x), some (.inl j2)], [.inl (((j2 + (s 3018)) / (s 3023)))], n, D, s, p, c)) rfl ?_
      exact K8 (((j2 + (s 3018)) / (s 3023)))  (by omega) (by omega) (by omega) (Or.inr (⟨h23, rfl⟩))
  refine tz_eq (x := (s 3046)) rfl rfl (by omega) (fun h34 => ?_) (fun h34 => ?_)
  · show tt Zi d 163 (16, [some (.inr (.inl 30)), some (.inl x), none], [], n, D, s, p, c) _
    refine tt_k 4 (S' := (22, [some (.inr (.inl 30)), some (.inl x), none], [.inl (x - (s 3045))], n, D, s, p, c)) rfl ?_
    have b35 : -65535 ≤ (s 3045) ∧ (s 3045) ≤ 131070 := hS 3045
    exact K3 (x - (s 3045))  (by omega) (Or.inl ⟨h34, rfl⟩)
  · show tt Zi d 163 (7, [some (.inr (.inl 30)), some (.inl x), none], [], n, D, s, p, c) _
    refine tt_k 5 (S' := (22, [some (.inr (.inl 30)), some (.inl x), none], [.inl ((s 3045) - x)], n, D, s, p, c)) rfl ?_
    have b36 : -65535 ≤ (s 3045) ∧ (s 3045) ≤ 131070 := hS 3045
    exact K3 ((s 3045) - x)  (by omega) (Or.inr (⟨h34, rfl⟩))
set_option maxRecDepth 100000 in
set_option maxHeartbeats 4000000 in
theorem k_sampleOf {Zi : Nat → Option (Nat × (Nat → Int))} {d n : Nat} {D : Nat → Nat × Nat} {s : Nat → Int} {p : Nat → Nat} {c : Nat → Nat → Int} (hd : 1 ≤ d) (hS : bS s) (hC : bC D c) (e : Int) (b_e : -65536 ≤ e ∧ e ≤ 65536) (hp0 : mv s) (hp1 : -65535 ≤ s 3045 ∧ s 3045 ≤ 131070) : tt Zi d 171 (0, [some (.inr (.inl 30)), some (.inl e), none], [], n, D, s, p, c) (fun R H => ∃ (r : Int), R = .inl (some (.inl r)) ∧ H = (n, D, s, p, c) ∧ (0 ≤ r ∧ r ≤ 65535) ∧ (0 ≤ r ∧ r ≤ s 3017)) := by
  have mvx := mv_fx hp0
  have hm := mul_bd (e := e) (st := s 3023) (a := 65536) (b := 511) (by omega) (by omega) (by omega) (by omega) (by omega)
  have hm2 : (-e) * s 3023 = -(e * s 3023) := Int.neg_mul _ _
  refine tt_k 4 (S' := (8, [some (.inr (.inl 30)), some (.inl e), none], [.inl (s 3046), .inl (s 3045)], n, D, s, p, c)) rfl ?_
  have b1 : 0 ≤ (s 3046) ∧ (s 3046) ≤ 1 := hS 3046
  have K3 : ∀ (j2 : Int) , (-33488896 ≤ j2 ∧ j2 ≤ 33488896) → (((s 3046) = 0 ∧ j2 = (e * (s 3023))) ∨ ((s 3046) ≠ 0 ∧ j2 = ((-e) * (s 3023)))) → tt Zi d 171 (27, [some (.inr (.inl 30)), some (.inl e), none], [.inl j2, .inl (s 3045)], n, D, s, p, c) (fun R H => ∃ (r : Int), R = .inl (some (.inl r)) ∧ H = (n, D, s, p, c) ∧ (0 ≤ r ∧ r ≤ 65535) ∧ (0 ≤ r ∧ r ≤ s 3017)) := by
    intro j2 b5 hj4
    have b6 : -2147483648 ≤ (s 3023) ∧ (s 3023) ≤ 2147483647 := hS 3023
    refine tt_k 6 (S' := (35, [some (.inr (.inl 30)), some (.inl e), some (.inl ((s 3045) + j2))], [.inl (-(s 3018)), .inl ((s 3045) + j2)], n, D, s, p, c)) rfl ?_
    have b7 : -65535 ≤ (s 3045) ∧ (s 3045) ≤ 131070 := hS 3045
    have b8 : -2147483648 ≤ (s 3018) ∧ (s 3018) ≤ 2147483647 := hS 3018
    have K10 : ∀ (j9 : Int) , (-33554429 ≤ j9 ∧ j9 ≤ 33619964) → (((-(s 3018)) ≤ ((s 3045) + j2) ∧ ((s 3045) + j2) ≤ ((s 3017) + (s 3018)) ∧ j9 = ((s 3045) + j2)) ∨ ((-(s 3018)) ≤ ((s 3045) + j2) ∧ ((s 3017) + (s 3018)) < ((s 3045) + j2) ∧ j9 = (((s 3045) + j2) - ((s 3024) * (s 3023)))) ∨ (((s 3045) + j2) < (-(s 3018)) ∧ j9 = (((s 3045) + j2) + ((s 3024) * (s 3023))))) → tt Zi d 171 (80, [some (.inr (.inl 30)), some (.inl e), some (.inl ((s 3045) + j2))], [.inl j9], n, D, s, p, c) (fun R H => ∃ (r : Int), R = .inl (some (.inl r)) ∧ H = (n, D, s, p, c) ∧ (0 ≤ r ∧ r ≤ 65535) ∧ (0 ≤ r ∧ r ≤ s 3017)) := by
      intro j9 b12 hj11
      have b13 : 0 ≤ (s 3017) ∧ (s 3017) ≤ 65535 := hS 3017
      have b14 : -2147483648 ≤ (s 3024) ∧ (s 3024) ≤ 2147483647 := hS 3024
      refine tt_k 5 (S' := (87, [some (.inr (.inl 30)), some (.inl e), some (.inl j9)], [.inl j9, .inl (s 3017), .inl 0], n, D, s, p, c)) rfl ?_
      refine tt_cl (by omega) rfl (k_less (Zi := Zi) (D := D) (s := s) (p := p) (c := c) (by omega) hS hC (s 3017) j9 (by omega) (by omega)) ?_
      rintro _ _ ⟨r15, rfl, rfl, b16, k17⟩
      show tt Zi d 171 (90, [some (.inr (.inl 30)), some (.inl e), some (.inl j9)], [.inl r15, .inl 0], n, D, s, p, c) _
      have k17 : r15 = min (s 3017) j9 := k17
      subst k17
      show tt Zi d 171 (90, [some (.inr (.inl 30)), some (.inl e), some (.inl j9)], [.inl (min (s 3017) j9), .inl 0], n, D, s, p, c) _
      refine tt_cl (by omega) rfl (k_more (Zi := Zi) (D := D) (s := s) (p := p) (c := c) (by omega) hS hC 0 (min (s 3017) j9) (by omega) (by omega)) ?_
      rintro _ _ ⟨r18, rfl, rfl, b19, k20⟩
      show tt Zi d 171 (93, [some (.inr (.inl 30)), some (.inl e), some (.inl j9)], [.inl r18], n, D, s, p, c) _
      have k20 : r18 = max 0 (min (s 3017) j9) := k20
      subst k20
      show tt Zi d 171 (93, [some (.inr (.inl 30)), some (.inl e), some (.inl j9)], [.inl ((max 0 (min (s 3017) j9)))], n, D, s, p, c) _
      exact tt_rti rfl rfl ⟨(max 0 (min (s 3017) j9)), rfl, rfl, by omega, by show 0 ≤ ((max 0 (min (s 3017) j9))) ∧ ((max 0 (min (s 3017) j9))) ≤ s 3017; omega⟩
    refine tb_ge (x := ((s 3045) + j2)) (y := (-(s 3018))) rfl rfl (by omega) (fun h21 => ?_) (fun h21 => ?_)
    · show tt Zi d 171 (52, [some (.inr (.inl 30)), some (.inl e), some (.inl ((s 3045) + j2))], [], n, D, s, p, c) _
      refine tt_k 6 (S' := (62, [some (.inr (.inl 30)), some (.inl e), some (.inl ((s 3045) + j2))], [.inl ((s 3017) + (s 3018)), .inl ((s 3045) + j2)], n, D, s, p, c)) rfl ?_
      have b22 : 0 ≤ (s 3017) ∧ (s 3017) ≤ 65535 := hS 3017
      refine tb_le (x := ((s 3045) + j2)) (y := ((s 3017) + (s 3018))) rfl rfl (by omega) (fun h23 => ?_) (fun h23 => ?_)
      · show tt Zi d 171 (79, [some (.inr (.inl 30)), some (.inl e), some (.inl ((s 3045) + j2))], [], n, D, s, p, c) _
        refine tt_k 1 (S' := (80, [some (.inr (.inl 30)), some (.inl e), some (.inl ((s 3045) + j2))], [.inl ((s 3045) + j2)], n, D, s, p, c)) rfl ?_
        exact K10 ((s 3045) + j2)  (by omega) (Or.inl ⟨h21, h23, rfl⟩)
      · show tt Zi d 171 (65, [some (.inr (.inl 30)), some (.inl e), some (.inl ((s 3045) + j2))], [], n, D, s, p, c) _
        refine tt_k 8 (S' := (80, [some (.inr (.inl 30)), some (.inl e), some (.inl ((s 3045) + j2))], [.inl ((((s 3045) + j2) - ((s 3024) * (s 3023))))], n, D, s, p, c)) rfl ?_
        have b24 : -2147483648 ≤ (s 3024) ∧ (s 3024) ≤ 2147483647 := hS 3024
        have m25 := mul_bd (e := (s 3024)) (st := (s 3023)) (a := 65536) (b := 511) (by omega) (by omega) (by omega) (by omega) (by omega)
        exact K10 ((((s 3045) + j2) - ((s 3024) * (s 3023))))  (by omega) (Or.inr (Or.inl ⟨h21, h23, rfl⟩))
    · show tt Zi d 171 (38, [some (.inr (.inl 30)), some (.inl e), some (.inl ((s 3045) + j2))], [], n, D, s, p, c) _
      refine tt_k 8 (S' := (80, [some (.inr (.inl 30)), some (.inl e), some (.inl ((s 3045) + j2))], [.inl ((((s 3045) + j2) + ((s 3024) * (s 3023))))], n, D, s, p, c)) rfl ?_
      have b26 : -2147483648 ≤ (s 3024) ∧ (s 3024) ≤ 2147483647 := hS 3024
      have m27 := mul_bd (e := (s 3024)) (st := (s 3023)) (a := 65536) (b := 511) (by omega) (by omega) (by omega) (by omega) (by omega)
      exact K10 ((((s 3045) + j2) + ((s 3024) * (s 3023))))  (by omega) (Or.inr (Or.inr (⟨h21, rfl⟩)))
  refine tz_eq (x := (s 3046)) rfl rfl (by omega) (fun h28 => ?_) (fun h28 => ?_)
  · show tt Zi d 171 (21, [some (.inr (.inl 30)), some (.inl e), none], [.inl (s 3045)], n, D, s, p, c) _
    refine tt_k 4 (S' := (27, [some (.inr (.inl 30)), some (.inl e), none], [.inl (e * (s 3023)), .inl (s 3045)], n, D, s, p, c)) rfl ?_
    have b29 : -2147483648 ≤ (s 3023) ∧ (s 3023) ≤ 2147483647 := hS 3023
    have m30 := mul_bd (e := e) (st := (s 3023)) (a := 65536) (b := 511) (by omega) (by omega) (by omega) (by omega) (by omega)
    exact K3 (e * (s 3023))  (by omega) (Or.inl ⟨h28, rfl⟩)
  · show tt Zi d 171 (11, [some (.inr (.inl 30)), some (.inl e), none], [.inl (s 3045)], n, D, s, p, c) _
    refine tt_k 6 (S' := (27, [some (.inr (.inl 30)), some (.inl e), none], [.inl ((-e) * (s 3023)), .inl (s 3045)], n, D, s, p, c)) rfl ?_
    have b31 : -2147483648 ≤ (s 3023) ∧ (s 3023) ≤ 2147483647 := hS 3023
    have m32 := mul_bd (e := (-e)) (st := (s 3023)) (a := 65536) (b := 511) (by omega) (by omega) (by omega) (by omega) (by omega)
    exact K3 ((-e) * (s 3023))  (by omega) (Or.inr (⟨h28, rfl⟩))
set_option maxRecDepth 100000 in
set_option maxHeartbeats 4000000 in
theorem k_exponent_L2 {Zi : Nat → Option (Nat × (Nat → Int))} {d n : Nat} {D : Nat → Nat × Nat} {s : Nat → Int} {p : Nat → Nat} {c : Nat → Nat → Int}  {Q : mi_Rs → mi_H → Prop} (hd : 0 ≤ d) (hS : bS s) (hC : bC D c) (sum : Int) (n_ : Int) (b_sum : 0 ≤ sum ∧ sum ≤ 536870912) (b_n_ : 1 ≤ n_ ∧ n_ ≤ 65536)
  (hK : ∀ (k : Int) (b_k : 0 ≤ k ∧ k ≤ 30) (i0 : k = 0 ∨ n_ * 2 ^ (k - 1).toNat < sum), sum ≤ n_ * 2 ^ k.toNat → tt Zi d 162 (18, [some (.inr (.inl 30)), some (.inl sum), some (.inl n_), some (.inl k)], [], n, D, s, p, c) Q) :
  ∀ (m : Nat) (k : Int) (b_k : 0 ≤ k ∧ k ≤ 30) (i0 : k = 0 ∨ n_ * 2 ^ (k - 1).toNat < sum), (30 - k).toNat < m → tt Zi d 162 (2, [some (.inr (.inl 30)), some (.inl sum), some (.inl n_), some (.inl k)], [], n, D, s, p, c) Q := by
  intro m
  induction m with
  | zero => intro k b_k i0 hm; exact absurd hm (by omega)
  | succ m ih =>
    intro k b_k i0 hm
    refine tt_k 1 (S' := (3, [some (.inr (.inl 30)), some (.inl sum), some (.inl n_), some (.inl k)], [.inl n_], n, D, s, p, c)) rfl ?_
    refine tt_i2l (x := n_) rfl (by omega) ?_
    refine tt_k 3 (S' := (7, [some (.inr (.inl 30)), some (.inl sum), some (.inl n_), some (.inl k)], [.inl sum, .inr (.inr (mi_lshl n_ k))], n, D, s, p, c)) rfl ?_
    refine tt_i2l (x := sum) rfl (by omega) ?_
    refine tt_k 1 (S' := (9, [some (.inr (.inl 30)), some (.inl sum), some (.inl n_), some (.inl k)], [.inl (mi_lcmp (mi_lshl n_ k) sum)], n, D, s, p, c)) rfl ?_
    have e1 := mi_lshl_bd (x := n_) (k := k) (by omega) (by omega) (by omega) (by omega)
    have el2 := mi_lshl_eq (x := n_) (k := k) (by omega) (by omega) (by omega) (by omega)
    have e3 := mi_lcmp_lt (x := (mi_lshl n_ k)) (y := sum) (by omega) (by omega)
    refine tz_ge (x := (mi_lcmp (mi_lshl n_ k) sum)) rfl rfl (by omega) (fun h4 => ?_) (fun h4 => ?_)
    · show tt Zi d 162 (18, [some (.inr (.inl 30)), some (.inl sum), some (.inl n_), some (.inl k)], [], n, D, s, p, c) _
      exact hK k (by omega) i0 (by omega)
    · show tt Zi d 162 (12, [some (.inr (.inl 30)), some (.inl sum), some (.inl n_), some (.inl k)], [], n, D, s, p, c) _
      refine tt_k 2 (S' := (2, [some (.inr (.inl 30)), some (.inl sum), some (.inl n_), some (.inl (k + 1))], [], n, D, s, p, c)) rfl ?_
      have hk28 := ex_bd (n := n_) (k := k) (sum := sum) (by omega) (by omega) (by omega) (by omega)
      exact ih (k + 1)  (by omega) (Or.inr (by rw [Int.add_sub_cancel]; omega)) (show (30 - (k + 1)).toNat < m by omega)
set_option maxRecDepth 100000 in
set_option maxHeartbeats 4000000 in
theorem k_exponent {Zi : Nat → Option (Nat × (Nat → Int))} {d n : Nat} {D : Nat → Nat × Nat} {s : Nat → Int} {p : Nat → Nat} {c : Nat → Nat → Int} (hd : 0 ≤ d) (hS : bS s) (hC : bC D c) (sum : Int) (n_ : Int) (b_sum : 0 ≤ sum ∧ sum ≤ 536870912) (b_n_ : 1 ≤ n_ ∧ n_ ≤ 65536) : tt Zi d 162 (0, [some (.inr (.inl 30)), some (.inl sum), some (.inl n_), none], [], n, D, s, p, c) (fun R H => ∃ (r : Int), R = .inl (some (.inl r)) ∧ H = (n, D, s, p, c) ∧ (0 ≤ r ∧ r ≤ 30) ∧ (sum ≤ n_ * 2 ^ r.toNat) ∧ (r = 0 ∨ n_ * 2 ^ (r - 1).toNat < sum)) := by
  refine tt_k 2 (S' := (2, [some (.inr (.inl 30)), some (.inl sum), some (.inl n_), some (.inl 0)], [], n, D, s, p, c)) rfl ?_
  refine k_exponent_L2 (Zi := Zi) (D := D) (s := s) (p := p) (c := c) hd hS hC  sum n_ (by omega) (by omega) ?_ _ 0  (by omega) (Or.inl rfl) (Nat.lt_succ_self _)
  intro x1 b2 i3 hx4
  show tt Zi d 162 (18, [some (.inr (.inl 30)), some (.inl sum), some (.inl n_), some (.inl x1)], [], n, D, s, p, c) _
  refine tt_k 1 (S' := (19, [some (.inr (.inl 30)), some (.inl sum), some (.inl n_), some (.inl x1)], [.inl x1], n, D, s, p, c)) rfl ?_
  exact tt_rti rfl rfl ⟨x1, rfl, rfl, by omega, hx4, i3⟩
