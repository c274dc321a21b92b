/-! the reference's leaves -/
set_option maxRecDepth 100000 in
set_option maxHeartbeats 4000000 in
theorem k_sizeOf {Zi : Nat → Option (Nat × (Nat → Int))} {d n : Nat} {D : Nat → Nat × Nat} {s : Nat → Int} {p : Nat → Nat} {c : Nat → Nat → Int} (hd : 0 ≤ d) (hS : bS s) (hC : bC D c) (v : Int) (b_v : -2147483647 ≤ v ∧ v ≤ 2147483647) : tt Zi d 155 (0, [some (.inl v)], [], n, D, s, p, c) (fun R H => ∃ (r : Int), R = .inl (some (.inl r)) ∧ H = (n, D, s, p, c) ∧ (0 ≤ r ∧ r ≤ 2147483647) ∧ (r = if 0 ≤ v then v else -v)) := by
  refine tt_k 1 (S' := (1, [some (.inl v)], [.inl v], n, D, s, p, c)) rfl ?_
  refine tz_ge (x := v) rfl rfl (by omega) (fun h1 => ?_) (fun h1 => ?_)
  · show tt Zi d 155 (9, [some (.inl v)], [], n, D, s, p, c) _
    refine tt_k 1 (S' := (10, [some (.inl v)], [.inl v], n, D, s, p, c)) rfl ?_
    exact tt_rti rfl rfl ⟨v, rfl, rfl, by omega, by show v = if 0 ≤ v then v else -v; split <;> omega⟩
  · show tt Zi d 155 (4, [some (.inl v)], [], n, D, s, p, c) _
    refine tt_k 3 (S' := (10, [some (.inl v)], [.inl (-v)], n, D, s, p, c)) rfl ?_
    exact tt_rti rfl rfl ⟨(-v), rfl, rfl, by omega, by show (-v) = if 0 ≤ v then v else -v; split <;> omega⟩
set_option maxRecDepth 100000 in
set_option maxHeartbeats 4000000 in
theorem k_less {Zi : Nat → Option (Nat × (Nat → Int))} {d n : Nat} {D : Nat → Nat × Nat} {s : Nat → Int} {p : Nat → Nat} {c : Nat → Nat → Int} (hd : 0 ≤ d) (hS : bS s) (hC : bC D c) (x : Int) (y : Int) (b_x : -2147483648 ≤ x ∧ x ≤ 2147483647) (b_y : -2147483648 ≤ y ∧ y ≤ 2147483647) : tt Zi d 139 (0, [some (.inl x), some (.inl y)], [], n, D, s, p, c) (fun R H => ∃ (r : Int), R = .inl (some (.inl r)) ∧ H = (n, D, s, p, c) ∧ (-2147483648 ≤ r ∧ r ≤ 2147483647) ∧ (r = min x y)) := by
  refine tt_k 2 (S' := (2, [some (.inl x), some (.inl y)], [.inl y, .inl x], n, D, s, p, c)) rfl ?_
  refine tb_ge (x := x) (y := y) rfl rfl (by omega) (fun h1 => ?_) (fun h1 => ?_)
  · show tt Zi d 139 (9, [some (.inl x), some (.inl y)], [], n, D, s, p, c) _
    refine tt_k 1 (S' := (10, [some (.inl x), some (.inl y)], [.inl y], n, D, s, p, c)) rfl ?_
    exact tt_rti rfl rfl ⟨y, rfl, rfl, by omega, by show y = min x y; omega⟩
  · show tt Zi d 139 (5, [some (.inl x), some (.inl y)], [], n, D, s, p, c) _
    refine tt_k 2 (S' := (10, [some (.inl x), some (.inl y)], [.inl x], n, D, s, p, c)) rfl ?_
    exact tt_rti rfl rfl ⟨x, rfl, rfl, by omega, by show x = min x y; omega⟩
set_option maxRecDepth 100000 in
set_option maxHeartbeats 4000000 in
theorem k_more {Zi : Nat → Option (Nat × (Nat → Int))} {d n : Nat} {D : Nat → Nat × Nat} {s : Nat → Int} {p : Nat → Nat} {c : Nat → Nat → Int} (hd : 0 ≤ d) (hS : bS s) (hC : bC D c) (x : Int) (y : Int) (b_x : -2147483648 ≤ x ∧ x ≤ 2147483647) (b_y : -2147483648 ≤ y ∧ y ≤ 2147483647) : tt Zi d 140 (0, [some (.inl x), some (.inl y)], [], n, D, s, p, c) (fun R H => ∃ (r : Int), R = .inl (some (.inl r)) ∧ H = (n, D, s, p, c) ∧ (-2147483648 ≤ r ∧ r ≤ 2147483647) ∧ (r = max x y)) := by
  refine tt_k 2 (S' := (2, [some (.inl x), some (.inl y)], [.inl y, .inl x], n, D, s, p, c)) rfl ?_
  refine tb_le (x := x) (y := y) rfl rfl (by omega) (fun h1 => ?_) (fun h1 => ?_)
  · show tt Zi d 140 (9, [some (.inl x), some (.inl y)], [], n, D, s, p, c) _
    refine tt_k 1 (S' := (10, [some (.inl x), some (.inl y)], [.inl y], n, D, s, p, c)) rfl ?_
    exact tt_rti rfl rfl ⟨y, rfl, rfl, by omega, by show y = max x y; omega⟩
  · show tt Zi d 140 (5, [some (.inl x), some (.inl y)], [], n, D, s, p, c) _
    refine tt_k 2 (S' := (10, [some (.inl x), some (.inl y)], [.inl x], n, D, s, p, c)) rfl ?_
    exact tt_rti rfl rfl ⟨x, rfl, rfl, by omega, by show x = max x y; omega⟩
set_option maxRecDepth 100000 in
set_option maxHeartbeats 4000000 in
theorem k_isIn {Zi : Nat → Option (Nat × (Nat → Int))} {d n : Nat} {D : Nat → Nat × Nat} {s : Nat → Int} {p : Nat → Nat} {c : Nat → Nat → Int} (hd : 0 ≤ d) (hS : bS s) (hC : bC D c) (v : Int) (lo : Int) (hi : Int) (b_v : -2147483648 ≤ v ∧ v ≤ 2147483647) (b_lo : -2147483648 ≤ lo ∧ lo ≤ 2147483647) (b_hi : -2147483648 ≤ hi ∧ hi ≤ 2147483647) : tt Zi d 136 (0, [some (.inl v), some (.inl lo), some (.inl hi)], [], n, D, s, p, c) (fun R H => ∃ (r : Int), R = .inl (some (.inl r)) ∧ H = (n, D, s, p, c) ∧ (0 ≤ r ∧ r ≤ 1) ∧ (r = if lo ≤ v ∧ v ≤ hi then (1 : Int) else 0)) := by
  refine tt_k 2 (S' := (2, [some (.inl v), some (.inl lo), some (.inl hi)], [.inl lo, .inl v], n, D, s, p, c)) rfl ?_
  refine tb_lt (x := v) (y := lo) rfl rfl (by omega) (fun h1 => ?_) (fun h1 => ?_)
  · show tt Zi d 136 (14, [some (.inl v), some (.inl lo), some (.inl hi)], [], n, D, s, p, c) _
    refine tt_k 1 (S' := (15, [some (.inl v), some (.inl lo), some (.inl hi)], [.inl 0], n, D, s, p, c)) rfl ?_
    exact tt_rtb rfl rfl (by omega) ⟨0, rfl, rfl, by omega, by show 0 = if lo ≤ v ∧ v ≤ hi then (1 : Int) else 0; split <;> omega⟩
  · show tt Zi d 136 (5, [some (.inl v), some (.inl lo), some (.inl hi)], [], n, D, s, p, c) _
    refine tt_k 2 (S' := (7, [some (.inl v), some (.inl lo), some (.inl hi)], [.inl hi, .inl v], n, D, s, p, c)) rfl ?_
    refine tb_gt (x := v) (y := hi) rfl rfl (by omega) (fun h2 => ?_) (fun h2 => ?_)
    · show tt Zi d 136 (14, [some (.inl v), some (.inl lo), some (.inl hi)], [], n, D, s, p, c) _
      refine tt_k 1 (S' := (15, [some (.inl v), some (.inl lo), some (.inl hi)], [.inl 0], n, D, s, p, c)) rfl ?_
      exact tt_rtb rfl rfl (by omega) ⟨0, rfl, rfl, by omega, by show 0 = if lo ≤ v ∧ v ≤ hi then (1 : Int) else 0; split <;> omega⟩
    · show tt Zi d 136 (10, [some (.inl v), some (.inl lo), some (.inl hi)], [], n, D, s, p, c) _
      refine tt_k 2 (S' := (15, [some (.inl v), some (.inl lo), some (.inl hi)], [.inl 1], n, D, s, p, c)) rfl ?_
      exact tt_rtb rfl rfl (by omega) ⟨1, rfl, rfl, by omega, by show 1 = if lo ≤ v ∧ v ≤ hi then (1 : Int) else 0; split <;> omega⟩
set_option maxRecDepth 100000 in
set_option maxHeartbeats 4000000 in
theorem k_greatest {Zi : Nat → Option (Nat × (Nat → Int))} {d n : Nat} {D : Nat → Nat × Nat} {s : Nat → Int} {p : Nat → Nat} {c : Nat → Nat → Int} (hd : 0 ≤ d) (hS : bS s) (hC : bC D c)  : tt Zi d 138 (0, [some (.inr (.inl 30))], [], n, D, s, p, c) (fun R H => ∃ (r : Int), R = .inl (some (.inl r)) ∧ H = (n, D, s, p, c) ∧ (3 ≤ r ∧ r ≤ 65535) ∧ (r = mi_shl 1 (s 3004) - 1)) := by
  refine tt_k 6 (S' := (8, [some (.inr (.inl 30))], [.inl (((mi_shl 1 (s 3004)) - 1))], n, D, s, p, c)) rfl ?_
  have b1 : 2 ≤ (s 3004) ∧ (s 3004) ≤ 16 := hS 3004
  have e2 : 4 ≤ (mi_shl 1 (s 3004)) ∧ (mi_shl 1 (s 3004)) ≤ 65536 := mi_shl1b 2 16 (by omega) (by omega) (by decide)
  exact tt_rti rfl rfl ⟨((mi_shl 1 (s 3004)) - 1), rfl, rfl, by omega, by show (((mi_shl 1 (s 3004)) - 1)) = mi_shl 1 (s 3004) - 1; omega⟩
set_option maxRecDepth 100000 in
set_option maxHeartbeats 4000000 in
theorem k_thrown {Zi : Nat → Option (Nat × (Nat → Int))} {d n : Nat} {D : Nat → Nat × Nat} {s : Nat → Int} {p : Nat → Nat} {c : Nat → Nat → Int} (hd : 0 ≤ d) (hS : bS s) (hC : bC D c)  : tt Zi d 134 (0, [some (.inr (.inl 30))], [], n, D, s, p, c) (fun R H => ∃ (r : Int), R = .inl (some (.inl r)) ∧ H = (n, D, s, p, c) ∧ (0 ≤ r ∧ r ≤ 2) ∧ (r = s 3000)) := by
  refine tt_k 2 (S' := (4, [some (.inr (.inl 30))], [.inl (s 3000)], n, D, s, p, c)) rfl ?_
  have b1 : 0 ≤ (s 3000) ∧ (s 3000) ≤ 2 := hS 3000
  exact tt_rti rfl rfl ⟨(s 3000), rfl, rfl, by omega, by show (s 3000) = s 3000; omega⟩
set_option maxRecDepth 100000 in
set_option maxHeartbeats 4000000 in
theorem k_fail {Zi : Nat → Option (Nat × (Nat → Int))} {d n : Nat} {D : Nat → Nat × Nat} {s : Nat → Int} {p : Nat → Nat} {c : Nat → Nat → Int} (hd : 0 ≤ d) (hS : bS s) (hC : bC D c) (what : Int) (where_ : Int) (b_what : 1 ≤ what ∧ what ≤ 8) (b_where_ : 0 ≤ where_ ∧ where_ ≤ 32769) : tt Zi d 166 (0, [some (.inr (.inl 30)), some (.inl what), some (.inl where_)], [], n, D, s, p, c) (fun R H => ∃ (s' : Nat → Int), R = .inl none ∧ H = (n, D, s', p, c) ∧ bS s' ∧ fr s s' [3050, 3051] ∧ ((s 3050 = 0 → s' 3050 = what ∧ s' 3051 = where_)) ∧ ((s 3050 ≠ 0 → s' 3050 = s 3050 ∧ s' 3051 = s 3051))) := by
  refine tt_k 2 (S' := (4, [some (.inr (.inl 30)), some (.inl what), some (.inl where_)], [.inl (s 3050)], n, D, s, p, c)) rfl ?_
  have b1 : 0 ≤ (s 3050) ∧ (s 3050) ≤ 8 := hS 3050
  refine tz_ne (x := (s 3050)) rfl rfl (by omega) (fun h2 => ?_) (fun h2 => ?_)
  · show tt Zi d 166 (17, [some (.inr (.inl 30)), some (.inl what), some (.inl where_)], [], n, D, s, p, c) _
    exact tt_rtv rfl rfl ⟨s, rfl, rfl, hS, fr_rf, by show (s 3050 = 0 → (s 3050) = what ∧ (s 3051) = where_); intro hq; first | exact ⟨rfl, rfl⟩ | omega, by show (s 3050 ≠ 0 → (s 3050) = s 3050 ∧ (s 3051) = s 3051); intro hq; first | exact ⟨rfl, rfl⟩ | omega⟩
  · show tt Zi d 166 (7, [some (.inr (.inl 30)), some (.inl what), some (.inl where_)], [], n, D, s, p, c) _
    refine tt_k 6 (S' := (17, [some (.inr (.inl 30)), some (.inl what), some (.inl where_)], [], n, D, (us (us s 3050 what) 3051 where_), p, c)) rfl ?_
    exact tt_rtv rfl rfl ⟨(us (us s 3050 what) 3051 where_), rfl, rfl, (bS_us (bS_us hS (show 0 ≤ what ∧ what ≤ 8 by omega)) (show -1 ≤ where_ ∧ where_ ≤ 32769 by omega)), (fr_us (by decide) (fr_us (by decide) fr_rf)), by show (s 3050 = 0 → what = what ∧ where_ = where_); intro hq; first | exact ⟨rfl, rfl⟩ | omega, by show (s 3050 ≠ 0 → what = s 3050 ∧ where_ = s 3051); intro hq; first | exact ⟨rfl, rfl⟩ | omega⟩
