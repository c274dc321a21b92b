/-! the reference's calls but pack and unpack -/
set_option maxRecDepth 100000 in
set_option maxHeartbeats 4000000 in
theorem k_fault0 {Zi : Nat → Option (Nat × (Nat → Int))} {d n : Nat} {D : Nat → Nat × Nat} {s : Nat → Int} {p : Nat → Nat} {c : Nat → Nat → Int} (hd : 0 ≤ d) (hS : bS s) (hC : bC D c)  : tt Zi d 149 (0, [some (.inr (.inl 30))], [], n, D, s, p, c) (fun R H => ∃ (s' : Nat → Int), R = .inl none ∧ H = (n, D, s', p, c) ∧ bS s' ∧ fr s s' [3050, 3062] ∧ (s' 3050 = 0)) := by
  refine tt_k 7 (S' := (13, [some (.inr (.inl 30))], [], n, D, (us (us s 3062 (s 3050)) 3050 0), p, c)) rfl ?_
  have b1 : 0 ≤ (s 3050) ∧ (s 3050) ≤ 8 := hS 3050
  exact tt_rtv rfl rfl ⟨(us (us s 3062 (s 3050)) 3050 0), rfl, rfl, (bS_us (bS_us hS (show 0 ≤ (s 3050) ∧ (s 3050) ≤ 8 by omega)) (show 0 ≤ 0 ∧ 0 ≤ 8 by omega)), (fr_us (by decide) (fr_us (by decide) fr_rf)), rfl⟩
set_option maxRecDepth 100000 in
set_option maxHeartbeats 4000000 in
theorem k_size {Zi : Nat → Option (Nat × (Nat → Int))} {d n : Nat} {D : Nat → Nat × Nat} {s : Nat → Int} {p : Nat → Nat} {c : Nat → Nat → Int} (hd : 0 ≤ d) (hS : bS s) (hC : bC D c)  : tt Zi d 178 (0, [some (.inr (.inl 30))], [], n, D, s, p, c) (fun R H => ∃ (s' : Nat → Int) (r : Int), R = .inl (some (.inl r)) ∧ H = (n, D, s', p, c) ∧ bS s' ∧ fr s s' [3000] ∧ (0 ≤ r ∧ r ≤ 65536) ∧ (r = s 3016) ∧ (s' 3000 = 0)) := by
  refine tt_k 5 (S' := (9, [some (.inr (.inl 30))], [.inl (s 3016)], n, D, (us s 3000 0), p, c)) rfl ?_
  have b1 : 0 ≤ (s 3016) ∧ (s 3016) ≤ 65536 := hS 3016
  exact tt_rti rfl rfl ⟨(us s 3000 0), (s 3016), rfl, rfl, (bS_us hS (show 0 ≤ 0 ∧ 0 ≤ 2 by omega)), (fr_us (by decide) fr_rf), by omega, rfl, rfl⟩
set_option maxRecDepth 100000 in
set_option maxHeartbeats 4000000 in
theorem k_place {Zi : Nat → Option (Nat × (Nat → Int))} {d n : Nat} {D : Nat → Nat × Nat} {s : Nat → Int} {p : Nat → Nat} {c : Nat → Nat → Int} (hd : 0 ≤ d) (hS : bS s) (hC : bC D c)  : tt Zi d 197 (0, [some (.inr (.inl 30))], [], n, D, s, p, c) (fun R H => ∃ (s' : Nat → Int) (r : Int), R = .inl (some (.inl r)) ∧ H = (n, D, s', p, c) ∧ bS s' ∧ fr s s' [3000] ∧ (-1 ≤ r ∧ r ≤ 32769) ∧ (r = s 3051) ∧ (s' 3000 = 0)) := by
  refine tt_k 5 (S' := (9, [some (.inr (.inl 30))], [.inl (s 3051)], n, D, (us s 3000 0), p, c)) rfl ?_
  have b1 : -1 ≤ (s 3051) ∧ (s 3051) ≤ 32769 := hS 3051
  exact tt_rti rfl rfl ⟨(us s 3000 0), (s 3051), rfl, rfl, (bS_us hS (show 0 ≤ 0 ∧ 0 ≤ 2 by omega)), (fr_us (by decide) fr_rf), by omega, rfl, rfl⟩
set_option maxRecDepth 100000 in
set_option maxHeartbeats 4000000 in
theorem k_out {Zi : Nat → Option (Nat × (Nat → Int))} {d n : Nat} {D : Nat → Nat × Nat} {s : Nat → Int} {p : Nat → Nat} {c : Nat → Nat → Int} (hd : 0 ≤ d) (hS : bS s) (hC : bC D c) (i : Int) (b_i : -2147483648 ≤ i ∧ i ≤ 2147483647) : tt Zi d 179 (0, [some (.inr (.inl 30)), some (.inl i)], [], n, D, s, p, c) (fun R H => ∃ (s' : Nat → Int) (r : Int), R = .inl (some (.inl r)) ∧ H = (n, D, s', p, c) ∧ bS s' ∧ fr s s' [3000] ∧ (0 ≤ r ∧ r ≤ 255) ∧ (s' 3000 = if 0 ≤ i ∧ i < s 3016 then 0 else 1)) := by
  refine tt_k 2 (S' := (2, [some (.inr (.inl 30)), some (.inl i)], [.inl i, .inr (.inl 30)], n, D, s, p, c)) rfl ?_
  have K2 : ∀ (j1 : Int) , (0 ≤ j1 ∧ j1 ≤ 1) → ((i < 0 ∧ j1 = 1) ∨ (0 ≤ i ∧ i < (s 3016) ∧ j1 = 0) ∨ (0 ≤ i ∧ (s 3016) ≤ i ∧ j1 = 1)) → tt Zi d 179 (18, [some (.inr (.inl 30)), some (.inl i)], [.inl j1, .inr (.inl 30)], n, D, s, p, c) (fun R H => ∃ (s' : Nat → Int) (r : Int), R = .inl (some (.inl r)) ∧ H = (n, D, s', p, c) ∧ bS s' ∧ fr s s' [3000] ∧ (0 ≤ r ∧ r ≤ 255) ∧ (s' 3000 = if 0 ≤ i ∧ i < s 3016 then 0 else 1)) := by
    intro j1 b4 hj3
    have b5 : 0 ≤ (s 3016) ∧ (s 3016) ≤ 65536 := hS 3016
    refine tt_k 3 (S' := (25, [some (.inr (.inl 30)), some (.inl i)], [.inl j1], n, D, (us s 3000 j1), p, c)) rfl ?_
    refine tz_le (x := j1) rfl rfl (by omega) (fun h6 => ?_) (fun h6 => ?_)
    · show tt Zi d 179 (32, [some (.inr (.inl 30)), some (.inl i)], [], n, D, (us s 3000 j1), p, c) _
      refine tt_k 3 (S' := (37, [some (.inr (.inl 30)), some (.inl i)], [.inl i, .inr (.inl 35)], n, D, (us s 3000 j1), p, c)) rfl ?_
      refine tt_bldv (i := i) (v := (c 35 (i).toNat)) rfl rfl (by omega) rfl ?_
      show tt Zi d 179 (38, [some (.inr (.inl 30)), some (.inl i)], [.inl (c 35 (i).toNat)], n, D, (us s 3000 j1), p, c) _
      have b7 : -128 ≤ (c 35 (i).toNat) ∧ (c 35 (i).toNat) ≤ 127 := hC 35 _
      refine tt_k 2 (S' := (42, [some (.inr (.inl 30)), some (.inl i)], [.inl ((mi_and (c 35 (i).toNat) 255))], n, D, (us s 3000 j1), p, c)) rfl ?_
      have e8 := mi_and255 (c 35 (i).toNat)
      exact tt_rti rfl rfl ⟨(us s 3000 j1), (mi_and (c 35 (i).toNat) 255), rfl, rfl, (bS_us hS (show 0 ≤ j1 ∧ j1 ≤ 2 by omega)), (fr_us (by decide) fr_rf), by omega, by show j1 = if 0 ≤ i ∧ i < s 3016 then 0 else 1; first | omega | (split <;> omega) | (split <;> (try split) <;> omega)⟩
    · show tt Zi d 179 (28, [some (.inr (.inl 30)), some (.inl i)], [], n, D, (us s 3000 j1), p, c) _
      refine tt_k 2 (S' := (42, [some (.inr (.inl 30)), some (.inl i)], [.inl 0], n, D, (us s 3000 j1), p, c)) rfl ?_
      exact tt_rti rfl rfl ⟨(us s 3000 j1), 0, rfl, rfl, (bS_us hS (show 0 ≤ j1 ∧ j1 ≤ 2 by omega)), (fr_us (by decide) fr_rf), by omega, by show j1 = if 0 ≤ i ∧ i < s 3016 then 0 else 1; first | omega | (split <;> omega) | (split <;> (try split) <;> omega)⟩
  refine tz_lt (x := i) rfl rfl (by omega) (fun h9 => ?_) (fun h9 => ?_)
  · show tt Zi d 179 (13, [some (.inr (.inl 30)), some (.inl i)], [.inr (.inl 30)], n, D, s, p, c) _
    refine tt_k 2 (S' := (18, [some (.inr (.inl 30)), some (.inl i)], [.inl 1, .inr (.inl 30)], n, D, s, p, c)) rfl ?_
    exact K2 1  (by omega) (Or.inl ⟨h9, rfl⟩)
  · show tt Zi d 179 (5, [some (.inr (.inl 30)), some (.inl i)], [.inr (.inl 30)], n, D, s, p, c) _
    refine tt_k 3 (S' := (10, [some (.inr (.inl 30)), some (.inl i)], [.inl (s 3016), .inl i, .inr (.inl 30)], n, D, s, p, c)) rfl ?_
    have b10 : 0 ≤ (s 3016) ∧ (s 3016) ≤ 65536 := hS 3016
    refine tb_lt (x := i) (y := (s 3016)) rfl rfl (by omega) (fun h11 => ?_) (fun h11 => ?_)
    · show tt Zi d 179 (17, [some (.inr (.inl 30)), some (.inl i)], [.inr (.inl 30)], n, D, s, p, c) _
      refine tt_k 1 (S' := (18, [some (.inr (.inl 30)), some (.inl i)], [.inl 0, .inr (.inl 30)], n, D, s, p, c)) rfl ?_
      exact K2 0  (by omega) (Or.inr (Or.inl ⟨h9, h11, rfl⟩))
    · show tt Zi d 179 (13, [some (.inr (.inl 30)), some (.inl i)], [.inr (.inl 30)], n, D, s, p, c) _
      refine tt_k 2 (S' := (18, [some (.inr (.inl 30)), some (.inl i)], [.inl 1, .inr (.inl 30)], n, D, s, p, c)) rfl ?_
      exact K2 1  (by omega) (Or.inr (Or.inr (⟨h9, h11, rfl⟩)))
set_option maxRecDepth 100000 in
set_option maxHeartbeats 4000000 in
theorem k_end {Zi : Nat → Option (Nat × (Nat → Int))} {d n : Nat} {D : Nat → Nat × Nat} {s : Nat → Int} {p : Nat → Nat} {c : Nat → Nat → Int} (hd : 0 ≤ d) (hS : bS s) (hC : bC D c) (i : Int) (b_i : -2147483648 ≤ i ∧ i ≤ 2147483647) : tt Zi d 182 (0, [some (.inr (.inl 30)), some (.inl i)], [], n, D, s, p, c) (fun R H => ∃ (s' : Nat → Int), R = .inl none ∧ H = (n, D, s', p, c) ∧ bS s' ∧ fr s s' [3000, 3014] ∧ (s' 3000 = if 0 ≤ i ∧ i ≤ s 3014 then 0 else 1) ∧ (s' 3014 = if 0 ≤ i ∧ i ≤ s 3014 then i else s 3014)) := by
  refine tt_k 2 (S' := (2, [some (.inr (.inl 30)), some (.inl i)], [.inl i, .inr (.inl 30)], n, D, s, p, c)) rfl ?_
  have K2 : ∀ (j1 : Int) , (0 ≤ j1 ∧ j1 ≤ 1) → ((i < 0 ∧ j1 = 1) ∨ (0 ≤ i ∧ i ≤ (s 3014) ∧ j1 = 0) ∨ (0 ≤ i ∧ (s 3014) < i ∧ j1 = 1)) → tt Zi d 182 (18, [some (.inr (.inl 30)), some (.inl i)], [.inl j1, .inr (.inl 30)], n, D, s, p, c) (fun R H => ∃ (s' : Nat → Int), R = .inl none ∧ H = (n, D, s', p, c) ∧ bS s' ∧ fr s s' [3000, 3014] ∧ (s' 3000 = if 0 ≤ i ∧ i ≤ s 3014 then 0 else 1) ∧ (s' 3014 = if 0 ≤ i ∧ i ≤ s 3014 then i else s 3014)) := by
    intro j1 b4 hj3
    have b5 : 0 ≤ (s 3014) ∧ (s 3014) ≤ 32768 := hS 3014
    refine tt_k 3 (S' := (25, [some (.inr (.inl 30)), some (.inl i)], [.inl j1], n, D, (us s 3000 j1), p, c)) rfl ?_
    refine tz_ne (x := j1) rfl rfl (by omega) (fun h6 => ?_) (fun h6 => ?_)
    · show tt Zi d 182 (33, [some (.inr (.inl 30)), some (.inl i)], [], n, D, (us s 3000 j1), p, c) _
      exact tt_rtv rfl rfl ⟨(us s 3000 j1), rfl, rfl, (bS_us hS (show 0 ≤ j1 ∧ j1 ≤ 2 by omega)), (fr_us (by decide) fr_rf), by show j1 = if 0 ≤ i ∧ i ≤ s 3014 then 0 else 1; first | omega | (split <;> omega) | (split <;> (try split) <;> omega), by show (s 3014) = if 0 ≤ i ∧ i ≤ s 3014 then i else s 3014; first | omega | (split <;> omega) | (split <;> (try split) <;> omega)⟩
    · show tt Zi d 182 (28, [some (.inr (.inl 30)), some (.inl i)], [], n, D, (us s 3000 j1), p, c) _
      refine tt_k 3 (S' := (33, [some (.inr (.inl 30)), some (.inl i)], [], n, D, (us (us s 3000 j1) 3014 i), p, c)) rfl ?_
      exact tt_rtv rfl rfl ⟨(us (us s 3000 j1) 3014 i), rfl, rfl, (bS_us (bS_us hS (show 0 ≤ j1 ∧ j1 ≤ 2 by omega)) (show 0 ≤ i ∧ i ≤ 32768 by omega)), (fr_us (by decide) (fr_us (by decide) fr_rf)), by show j1 = if 0 ≤ i ∧ i ≤ s 3014 then 0 else 1; first | omega | (split <;> omega) | (split <;> (try split) <;> omega), by show i = if 0 ≤ i ∧ i ≤ s 3014 then i else s 3014; first | omega | (split <;> omega) | (split <;> (try split) <;> omega)⟩
  refine tz_lt (x := i) rfl rfl (by omega) (fun h7 => ?_) (fun h7 => ?_)
  · show tt Zi d 182 (13, [some (.inr (.inl 30)), some (.inl i)], [.inr (.inl 30)], n, D, s, p, c) _
    refine tt_k 2 (S' := (18, [some (.inr (.inl 30)), some (.inl i)], [.inl 1, .inr (.inl 30)], n, D, s, p, c)) rfl ?_
    exact K2 1  (by omega) (Or.inl ⟨h7, rfl⟩)
  · show tt Zi d 182 (5, [some (.inr (.inl 30)), some (.inl i)], [.inr (.inl 30)], n, D, s, p, c) _
    refine tt_k 3 (S' := (10, [some (.inr (.inl 30)), some (.inl i)], [.inl (s 3014), .inl i, .inr (.inl 30)], n, D, s, p, c)) rfl ?_
    have b8 : 0 ≤ (s 3014) ∧ (s 3014) ≤ 32768 := hS 3014
    refine tb_le (x := i) (y := (s 3014)) rfl rfl (by omega) (fun h9 => ?_) (fun h9 => ?_)
    · show tt Zi d 182 (17, [some (.inr (.inl 30)), some (.inl i)], [.inr (.inl 30)], n, D, s, p, c) _
      refine tt_k 1 (S' := (18, [some (.inr (.inl 30)), some (.inl i)], [.inl 0, .inr (.inl 30)], n, D, s, p, c)) rfl ?_
      exact K2 0  (by omega) (Or.inr (Or.inl ⟨h7, h9, rfl⟩))
    · show tt Zi d 182 (13, [some (.inr (.inl 30)), some (.inl i)], [.inr (.inl 30)], n, D, s, p, c) _
      refine tt_k 2 (S' := (18, [some (.inr (.inl 30)), some (.inl i)], [.inl 1, .inr (.inl 30)], n, D, s, p, c)) rfl ?_
      exact K2 1  (by omega) (Or.inr (Or.inr (⟨h7, h9, rfl⟩)))
set_option maxRecDepth 100000 in
set_option maxHeartbeats 4000000 in
theorem k_at {Zi : Nat → Option (Nat × (Nat → Int))} {d n : Nat} {D : Nat → Nat × Nat} {s : Nat → Int} {p : Nat → Nat} {c : Nat → Nat → Int} (hd : 0 ≤ d) (hS : bS s) (hC : bC D c) (a_ : Int) (x : Int) (y : Int) (b_a_ : -2147483648 ≤ a_ ∧ a_ ≤ 2147483647) (b_x : -2147483648 ≤ x ∧ x ≤ 2147483647) (b_y : -2147483648 ≤ y ∧ y ≤ 2147483647) : tt Zi d 141 (0, [some (.inr (.inl 30)), some (.inl a_), some (.inl x), some (.inl y)], [], n, D, s, p, c) (fun R H => ∃ (s' : Nat → Int) (r : Int), R = .inl (some (.inl r)) ∧ H = (n, D, s', p, c) ∧ bS s' ∧ fr s s' [3000] ∧ (0 ≤ r ∧ r ≤ 65535) ∧ (s' 3000 = if 0 ≤ a_ ∧ a_ < s 3003 ∧ 0 ≤ x ∧ x < s 3001 ∧ 0 ≤ y ∧ y < s 3002 then 0 else 1)) := by
  refine tt_k 2 (S' := (2, [some (.inr (.inl 30)), some (.inl a_), some (.inl x), some (.inl y)], [.inl a_, .inr (.inl 30)], n, D, s, p, c)) rfl ?_
  have K2 : ∀ (j1 : Int) , (0 ≤ j1 ∧ j1 ≤ 1) → ((a_ < 0 ∧ j1 = 1) ∨ (0 ≤ a_ ∧ (s 3003) ≤ a_ ∧ j1 = 1) ∨ (0 ≤ a_ ∧ a_ < (s 3003) ∧ x < 0 ∧ j1 = 1) ∨ (0 ≤ a_ ∧ a_ < (s 3003) ∧ 0 ≤ x ∧ (s 3001) ≤ x ∧ j1 = 1) ∨ (0 ≤ a_ ∧ a_ < (s 3003) ∧ 0 ≤ x ∧ x < (s 3001) ∧ y < 0 ∧ j1 = 1) ∨ (0 ≤ a_ ∧ a_ < (s 3003) ∧ 0 ≤ x ∧ x < (s 3001) ∧ 0 ≤ y ∧ (s 3002) ≤ y ∧ j1 = 1) ∨ (0 ≤ a_ ∧ a_ < (s 3003) ∧ 0 ≤ x ∧ x < (s 3001) ∧ 0 ≤ y ∧ y < (s 3002) ∧ j1 = 0)) → tt Zi d 141 (42, [some (.inr (.inl 30)), some (.inl a_), some (.inl x), some (.inl y)], [.inl j1, .inr (.inl 30)], n, D, s, p, c) (fun R H => ∃ (s' : Nat → Int) (r : Int), R = .inl (some (.inl r)) ∧ H = (n, D, s', p, c) ∧ bS s' ∧ fr s s' [3000] ∧ (0 ≤ r ∧ r ≤ 65535) ∧ (s' 3000 = if 0 ≤ a_ ∧ a_ < s 3003 ∧ 0 ≤ x ∧ x < s 3001 ∧ 0 ≤ y ∧ y < s 3002 then 0 else 1)) := by
    intro j1 b4 hj3
    have b5 : 1 ≤ (s 3003) ∧ (s 3003) ≤ 3 := hS 3003
    have b6 : 1 ≤ (s 3001) ∧ (s 3001) ≤ 64 := hS 3001
    have b7 : 1 ≤ (s 3002) ∧ (s 3002) ≤ 64 := hS 3002
    refine tt_k 3 (S' := (49, [some (.inr (.inl 30)), some (.inl a_), some (.inl x), some (.inl y)], [.inl j1], n, D, (us s 3000 j1), p, c)) rfl ?_
    refine tz_le (x := j1) rfl rfl (by omega) (fun h8 => ?_) (fun h8 => ?_)
    · show tt Zi d 141 (56, [some (.inr (.inl 30)), some (.inl a_), some (.inl x), some (.inl y)], [], n, D, (us s 3000 j1), p, c) _
      refine tt_k 11 (S' := (72, [some (.inr (.inl 30)), some (.inl a_), some (.inl x), some (.inl y)], [.inl ((((4096 * a_) + (64 * y)) + x)), .inr (.inl 31)], n, D, (us s 3000 j1), p, c)) rfl ?_
      refine tt_ildv (i := (((4096 * a_) + (64 * y)) + x)) (v := (c 31 ((((4096 * a_) + (64 * y)) + x)).toNat)) rfl rfl (by omega) rfl ?_
      show tt Zi d 141 (73, [some (.inr (.inl 30)), some (.inl a_), some (.inl x), some (.inl y)], [.inl ((c 31 ((((4096 * a_) + (64 * y)) + x)).toNat))], n, D, (us s 3000 j1), p, c) _
      have b9 : 0 ≤ (c 31 ((((4096 * a_) + (64 * y)) + x)).toNat) ∧ (c 31 ((((4096 * a_) + (64 * y)) + x)).toNat) ≤ 65535 := hC 31 _
      exact tt_rti rfl rfl ⟨(us s 3000 j1), (c 31 ((((4096 * a_) + (64 * y)) + x)).toNat), rfl, rfl, (bS_us hS (show 0 ≤ j1 ∧ j1 ≤ 2 by omega)), (fr_us (by decide) fr_rf), by omega, by show j1 = if 0 ≤ a_ ∧ a_ < s 3003 ∧ 0 ≤ x ∧ x < s 3001 ∧ 0 ≤ y ∧ y < s 3002 then 0 else 1; first | omega | (split <;> omega) | (split <;> (try split) <;> omega)⟩
    · show tt Zi d 141 (52, [some (.inr (.inl 30)), some (.inl a_), some (.inl x), some (.inl y)], [], n, D, (us s 3000 j1), p, c) _
      refine tt_k 2 (S' := (73, [some (.inr (.inl 30)), some (.inl a_), some (.inl x), some (.inl y)], [.inl 0], n, D, (us s 3000 j1), p, c)) rfl ?_
      exact tt_rti rfl rfl ⟨(us s 3000 j1), 0, rfl, rfl, (bS_us hS (show 0 ≤ j1 ∧ j1 ≤ 2 by omega)), (fr_us (by decide) fr_rf), by omega, by show j1 = if 0 ≤ a_ ∧ a_ < s 3003 ∧ 0 ≤ x ∧ x < s 3001 ∧ 0 ≤ y ∧ y < s 3002 then 0 else 1; first | omega | (split <;> omega) | (split <;> (try split) <;> omega)⟩
  refine tz_lt (x := a_) rfl rfl (by omega) (fun h10 => ?_) (fun h10 => ?_)
  · show tt Zi d 141 (41, [some (.inr (.inl 30)), some (.inl a_), some (.inl x), some (.inl y)], [.inr (.inl 30)], n, D, s, p, c) _
    refine tt_k 1 (S' := (42, [some (.inr (.inl 30)), some (.inl a_), some (.inl x), some (.inl y)], [.inl 1, .inr (.inl 30)], n, D, s, p, c)) rfl ?_
    exact K2 1  (by omega) (Or.inl ⟨h10, rfl⟩)
  · show tt Zi d 141 (5, [some (.inr (.inl 30)), some (.inl a_), some (.inl x), some (.inl y)], [.inr (.inl 30)], n, D, s, p, c) _
    refine tt_k 3 (S' := (10, [some (.inr (.inl 30)), some (.inl a_), some (.inl x), some (.inl y)], [.inl (s 3003), .inl a_, .inr (.inl 30)], n, D, s, p, c)) rfl ?_
    have b11 : 1 ≤ (s 3003) ∧ (s 3003) ≤ 3 := hS 3003
    refine tb_ge (x := a_) (y := (s 3003)) rfl rfl (by omega) (fun h12 => ?_) (fun h12 => ?_)
    · show tt Zi d 141 (41, [some (.inr (.inl 30)), some (.inl a_), some (.inl x), some (.inl y)], [.inr (.inl 30)], n, D, s, p, c) _
      refine tt_k 1 (S' := (42, [some (.inr (.inl 30)), some (.inl a_), some (.inl x), some (.inl y)], [.inl 1, .inr (.inl 30)], n, D, s, p, c)) rfl ?_
      exact K2 1  (by omega) (Or.inr (Or.inl ⟨h10, h12, rfl⟩))
    · show tt Zi d 141 (13, [some (.inr (.inl 30)), some (.inl a_), some (.inl x), some (.inl y)], [.inr (.inl 30)], n, D, s, p, c) _
      refine tt_k 1 (S' := (14, [some (.inr (.inl 30)), some (.inl a_), some (.inl x), some (.inl y)], [.inl x, .inr (.inl 30)], n, D, s, p, c)) rfl ?_
      refine tz_lt (x := x) rfl rfl (by omega) (fun h13 => ?_) (fun h13 => ?_)
      · show tt Zi d 141 (41, [some (.inr (.inl 30)), some (.inl a_), some (.inl x), some (.inl y)], [.inr (.inl 30)], n, D, s, p, c) _
        refine tt_k 1 (S' := (42, [some (.inr (.inl 30)), some (.inl a_), some (.inl x), some (.inl y)], [.inl 1, .inr (.inl 30)], n, D, s, p, c)) rfl ?_
        exact K2 1  (by omega) (Or.inr (Or.inr (Or.inl ⟨h10, h12, h13, rfl⟩)))
      · show tt Zi d 141 (17, [some (.inr (.inl 30)), some (.inl a_), some (.inl x), some (.inl y)], [.inr (.inl 30)], n, D, s, p, c) _
        refine tt_k 3 (S' := (22, [some (.inr (.inl 30)), some (.inl a_), some (.inl x), some (.inl y)], [.inl (s 3001), .inl x, .inr (.inl 30)], n, D, s, p, c)) rfl ?_
        have b14 : 1 ≤ (s 3001) ∧ (s 3001) ≤ 64 := hS 3001
        refine tb_ge (x := x) (y := (s 3001)) rfl rfl (by omega) (fun h15 => ?_) (fun h15 => ?_)
        · show tt Zi d 141 (41, [some (.inr (.inl 30)), some (.inl a_), some (.inl x), some (.inl y)], [.inr (.inl 30)], n, D, s, p, c) _
          refine tt_k 1 (S' := (42, [some (.inr (.inl 30)), some (.inl a_), some (.inl x), some (.inl y)], [.inl 1, .inr (.inl 30)], n, D, s, p, c)) rfl ?_
          exact K2 1  (by omega) (Or.inr (Or.inr (Or.inr (Or.inl ⟨h10, h12, h13, h15, rfl⟩))))
        · show tt Zi d 141 (25, [some (.inr (.inl 30)), some (.inl a_), some (.inl x), some (.inl y)], [.inr (.inl 30)], n, D, s, p, c) _
          refine tt_k 1 (S' := (26, [some (.inr (.inl 30)), some (.inl a_), some (.inl x), some (.inl y)], [.inl y, .inr (.inl 30)], n, D, s, p, c)) rfl ?_
          refine tz_lt (x := y) rfl rfl (by omega) (fun h16 => ?_) (fun h16 => ?_)
          · show tt Zi d 141 (41, [some (.inr (.inl 30)), some (.inl a_), some (.inl x), some (.inl y)], [.inr (.inl 30)], n, D, s, p, c) _
            refine tt_k 1 (S' := (42, [some (.inr (.inl 30)), some (.inl a_), some (.inl x), some (.inl y)], [.inl 1, .inr (.inl 30)], n, D, s, p, c)) rfl ?_
            exact K2 1  (by omega) (Or.inr (Or.inr (Or.inr (Or.inr (Or.inl ⟨h10, h12, h13, h15, h16, rfl⟩)))))
          · show tt Zi d 141 (29, [some (.inr (.inl 30)), some (.inl a_), some (.inl x), some (.inl y)], [.inr (.inl 30)], n, D, s, p, c) _
            refine tt_k 3 (S' := (34, [some (.inr (.inl 30)), some (.inl a_), some (.inl x), some (.inl y)], [.inl (s 3002), .inl y, .inr (.inl 30)], n, D, s, p, c)) rfl ?_
            have b17 : 1 ≤ (s 3002) ∧ (s 3002) ≤ 64 := hS 3002
            refine tb_ge (x := y) (y := (s 3002)) rfl rfl (by omega) (fun h18 => ?_) (fun h18 => ?_)
            · show tt Zi d 141 (41, [some (.inr (.inl 30)), some (.inl a_), some (.inl x), some (.inl y)], [.inr (.inl 30)], n, D, s, p, c) _
              refine tt_k 1 (S' := (42, [some (.inr (.inl 30)), some (.inl a_), some (.inl x), some (.inl y)], [.inl 1, .inr (.inl 30)], n, D, s, p, c)) rfl ?_
              exact K2 1  (by omega) (Or.inr (Or.inr (Or.inr (Or.inr (Or.inr (Or.inl ⟨h10, h12, h13, h15, h16, h18, rfl⟩))))))
            · show tt Zi d 141 (37, [some (.inr (.inl 30)), some (.inl a_), some (.inl x), some (.inl y)], [.inr (.inl 30)], n, D, s, p, c) _
              refine tt_k 2 (S' := (42, [some (.inr (.inl 30)), some (.inl a_), some (.inl x), some (.inl y)], [.inl 0, .inr (.inl 30)], n, D, s, p, c)) rfl ?_
              exact K2 0  (by omega) (Or.inr (Or.inr (Or.inr (Or.inr (Or.inr (Or.inr (⟨h10, h12, h13, h15, h16, h18, rfl⟩)))))))
set_option maxRecDepth 100000 in
set_option maxHeartbeats 4000000 in
theorem k_sample {Zi : Nat → Option (Nat × (Nat → Int))} {d n : Nat} {D : Nat → Nat × Nat} {s : Nat → Int} {p : Nat → Nat} {c : Nat → Nat → Int} (hd : 0 ≤ d) (hS : bS s) (hC : bC D c) (a_ : Int) (x : Int) (y : Int) (b_a_ : -2147483648 ≤ a_ ∧ a_ ≤ 2147483647) (b_x : -2147483648 ≤ x ∧ x ≤ 2147483647) (b_y : -2147483648 ≤ y ∧ y ≤ 2147483647) : tt Zi d 199 (0, [some (.inr (.inl 30)), some (.inl a_), some (.inl x), some (.inl y)], [], n, D, s, p, c) (fun R H => ∃ (s' : Nat → Int) (r : Int), R = .inl (some (.inl r)) ∧ H = (n, D, s', p, c) ∧ bS s' ∧ fr s s' [3000] ∧ (0 ≤ r ∧ r ≤ 65535)) := by
  refine tt_k 3 (S' := (5, [some (.inr (.inl 30)), some (.inl a_), some (.inl x), some (.inl y)], [.inl (s 3007), .inr (.inl 30)], n, D, s, p, c)) rfl ?_
  have b1 : 0 ≤ (s 3007) ∧ (s 3007) ≤ 1 := hS 3007
  have K3 : ∀ (j2 : Int) , (0 ≤ j2 ∧ j2 ≤ 2) → (((s 3007) ≠ 0 ∧ a_ < 0 ∧ j2 = 2) ∨ ((s 3007) ≠ 0 ∧ 0 ≤ a_ ∧ (s 3010) ≤ a_ ∧ j2 = 2) ∨ ((s 3007) ≠ 0 ∧ 0 ≤ a_ ∧ a_ < (s 3010) ∧ x < 0 ∧ j2 = 2) ∨ ((s 3007) ≠ 0 ∧ 0 ≤ a_ ∧ a_ < (s 3010) ∧ 0 ≤ x ∧ (s 3008) ≤ x ∧ j2 = 2) ∨ ((s 3007) ≠ 0 ∧ 0 ≤ a_ ∧ a_ < (s 3010) ∧ 0 ≤ x ∧ x < (s 3008) ∧ y < 0 ∧ j2 = 2) ∨ ((s 3007) ≠ 0 ∧ 0 ≤ a_ ∧ a_ < (s 3010) ∧ 0 ≤ x ∧ x < (s 3008) ∧ 0 ≤ y ∧ (s 3009) ≤ y ∧ j2 = 2) ∨ ((s 3007) ≠ 0 ∧ 0 ≤ a_ ∧ a_ < (s 3010) ∧ 0 ≤ x ∧ x < (s 3008) ∧ 0 ≤ y ∧ y < (s 3009) ∧ j2 = 0) ∨ ((s 3007) = 0 ∧ j2 = 1)) → tt Zi d 199 (53, [some (.inr (.inl 30)), some (.inl a_), some (.inl x), some (.inl y)], [.inl j2, .inr (.inl 30)], n, D, s, p, c) (fun R H => ∃ (s' : Nat → Int) (r : Int), R = .inl (some (.inl r)) ∧ H = (n, D, s', p, c) ∧ bS s' ∧ fr s s' [3000] ∧ (0 ≤ r ∧ r ≤ 65535)) := by
    intro j2 b5 hj4
    have b6 : 0 ≤ (s 3010) ∧ (s 3010) ≤ 3 := hS 3010
    have b7 : 0 ≤ (s 3008) ∧ (s 3008) ≤ 64 := hS 3008
    have b8 : 0 ≤ (s 3009) ∧ (s 3009) ≤ 64 := hS 3009
    refine tt_k 3 (S' := (60, [some (.inr (.inl 30)), some (.inl a_), some (.inl x), some (.inl y)], [.inl j2], n, D, (us s 3000 j2), p, c)) rfl ?_
    refine tz_le (x := j2) rfl rfl (by omega) (fun h9 => ?_) (fun h9 => ?_)
    · show tt Zi d 199 (67, [some (.inr (.inl 30)), some (.inl a_), some (.inl x), some (.inl y)], [], n, D, (us s 3000 j2), p, c) _
      refine tt_k 11 (S' := (83, [some (.inr (.inl 30)), some (.inl a_), some (.inl x), some (.inl y)], [.inl ((((4096 * a_) + (64 * y)) + x)), .inr (.inl 33)], n, D, (us s 3000 j2), p, c)) rfl ?_
      refine tt_ildv (i := (((4096 * a_) + (64 * y)) + x)) (v := (c 33 ((((4096 * a_) + (64 * y)) + x)).toNat)) rfl rfl (by omega) rfl ?_
      show tt Zi d 199 (84, [some (.inr (.inl 30)), some (.inl a_), some (.inl x), some (.inl y)], [.inl ((c 33 ((((4096 * a_) + (64 * y)) + x)).toNat))], n, D, (us s 3000 j2), p, c) _
      have b10 : 0 ≤ (c 33 ((((4096 * a_) + (64 * y)) + x)).toNat) ∧ (c 33 ((((4096 * a_) + (64 * y)) + x)).toNat) ≤ 65535 := hC 33 _
      exact tt_rti rfl rfl ⟨(us s 3000 j2), (c 33 ((((4096 * a_) + (64 * y)) + x)).toNat), rfl, rfl, (bS_us hS (show 0 ≤ j2 ∧ j2 ≤ 2 by omega)), (fr_us (by decide) fr_rf), by omega⟩
    · show tt Zi d 199 (63, [some (.inr (.inl 30)), some (.inl a_), some (.inl x), some (.inl y)], [], n, D, (us s 3000 j2), p, c) _
      refine tt_k 2 (S' := (84, [some (.inr (.inl 30)), some (.inl a_), some (.inl x), some (.inl y)], [.inl 0], n, D, (us s 3000 j2), p, c)) rfl ?_
      exact tt_rti rfl rfl ⟨(us s 3000 j2), 0, rfl, rfl, (bS_us hS (show 0 ≤ j2 ∧ j2 ≤ 2 by omega)), (fr_us (by decide) fr_rf), by omega⟩
  refine tz_ne (x := (s 3007)) rfl rfl (by omega) (fun h11 => ?_) (fun h11 => ?_)
  · show tt Zi d 199 (12, [some (.inr (.inl 30)), some (.inl a_), some (.inl x), some (.inl y)], [.inr (.inl 30)], n, D, s, p, c) _
    refine tt_k 1 (S' := (13, [some (.inr (.inl 30)), some (.inl a_), some (.inl x), some (.inl y)], [.inl a_, .inr (.inl 30)], n, D, s, p, c)) rfl ?_
    refine tz_lt (x := a_) rfl rfl (by omega) (fun h12 => ?_) (fun h12 => ?_)
    · show tt Zi d 199 (52, [some (.inr (.inl 30)), some (.inl a_), some (.inl x), some (.inl y)], [.inr (.inl 30)], n, D, s, p, c) _
      refine tt_k 1 (S' := (53, [some (.inr (.inl 30)), some (.inl a_), some (.inl x), some (.inl y)], [.inl 2, .inr (.inl 30)], n, D, s, p, c)) rfl ?_
      exact K3 2  (by omega) (Or.inl ⟨h11, h12, rfl⟩)
    · show tt Zi d 199 (16, [some (.inr (.inl 30)), some (.inl a_), some (.inl x), some (.inl y)], [.inr (.inl 30)], n, D, s, p, c) _
      refine tt_k 3 (S' := (21, [some (.inr (.inl 30)), some (.inl a_), some (.inl x), some (.inl y)], [.inl (s 3010), .inl a_, .inr (.inl 30)], n, D, s, p, c)) rfl ?_
      have b13 : 0 ≤ (s 3010) ∧ (s 3010) ≤ 3 := hS 3010
      refine tb_ge (x := a_) (y := (s 3010)) rfl rfl (by omega) (fun h14 => ?_) (fun h14 => ?_)
      · show tt Zi d 199 (52, [some (.inr (.inl 30)), some (.inl a_), some (.inl x), some (.inl y)], [.inr (.inl 30)], n, D, s, p, c) _
        refine tt_k 1 (S' := (53, [some (.inr (.inl 30)), some (.inl a_), some (.inl x), some (.inl y)], [.inl 2, .inr (.inl 30)], n, D, s, p, c)) rfl ?_
        exact K3 2  (by omega) (Or.inr (Or.inl ⟨h11, h12, h14, rfl⟩))
      · show tt Zi d 199 (24, [some (.inr (.inl 30)), some (.inl a_), some (.inl x), some (.inl y)], [.inr (.inl 30)], n, D, s, p, c) _
        refine tt_k 1 (S' := (25, [some (.inr (.inl 30)), some (.inl a_), some (.inl x), some (.inl y)], [.inl x, .inr (.inl 30)], n, D, s, p, c)) rfl ?_
        refine tz_lt (x := x) rfl rfl (by omega) (fun h15 => ?_) (fun h15 => ?_)
        · show tt Zi d 199 (52, [some (.inr (.inl 30)), some (.inl a_), some (.inl x), some (.inl y)], [.inr (.inl 30)], n, D, s, p, c) _
          refine tt_k 1 (S' := (53, [some (.inr (.inl 30)), some (.inl a_), some (.inl x), some (.inl y)], [.inl 2, .inr (.inl 30)], n, D, s, p, c)) rfl ?_
          exact K3 2  (by omega) (Or.inr (Or.inr (Or.inl ⟨h11, h12, h14, h15, rfl⟩)))
        · show tt Zi d 199 (28, [some (.inr (.inl 30)), some (.inl a_), some (.inl x), some (.inl y)], [.inr (.inl 30)], n, D, s, p, c) _
          refine tt_k 3 (S' := (33, [some (.inr (.inl 30)), some (.inl a_), some (.inl x), some (.inl y)], [.inl (s 3008), .inl x, .inr (.inl 30)], n, D, s, p, c)) rfl ?_
          have b16 : 0 ≤ (s 3008) ∧ (s 3008) ≤ 64 := hS 3008
          refine tb_ge (x := x) (y := (s 3008)) rfl rfl (by omega) (fun h17 => ?_) (fun h17 => ?_)
          · show tt Zi d 199 (52, [some (.inr (.inl 30)), some (.inl a_), some (.inl x), some (.inl y)], [.inr (.inl 30)], n, D, s, p, c) _
            refine tt_k 1 (S' := (53, [some (.inr (.inl 30)), some (.inl a_), some (.inl x), some (.inl y)], [.inl 2, .inr (.inl 30)], n, D, s, p, c)) rfl ?_
            exact K3 2  (by omega) (Or.inr (Or.inr (Or.inr (Or.inl ⟨h11, h12, h14, h15, h17, rfl⟩))))
          · show tt Zi d 199 (36, [some (.inr (.inl 30)), some (.inl a_), some (.inl x), some (.inl y)], [.inr (.inl 30)], n, D, s, p, c) _
            refine tt_k 1 (S' := (37, [some (.inr (.inl 30)), some (.inl a_), some (.inl x), some (.inl y)], [.inl y, .inr (.inl 30)], n, D, s, p, c)) rfl ?_
            refine tz_lt (x := y) rfl rfl (by omega) (fun h18 => ?_) (fun h18 => ?_)
            · show tt Zi d 199 (52, [some (.inr (.inl 30)), some (.inl a_), some (.inl x), some (.inl y)], [.inr (.inl 30)], n, D, s, p, c) _
              refine tt_k 1 (S' := (53, [some (.inr (.inl 30)), some (.inl a_), some (.inl x), some (.inl y)], [.inl 2, .inr (.inl 30)], n, D, s, p, c)) rfl ?_
              exact K3 2  (by omega) (Or.inr (Or.inr (Or.inr (Or.inr (Or.inl ⟨h11, h12, h14, h15, h17, h18, rfl⟩)))))
            · show tt Zi d 199 (40, [some (.inr (.inl 30)), some (.inl a_), some (.inl x), some (.inl y)], [.inr (.inl 30)], n, D, s, p, c) _
              refine tt_k 3 (S' := (45, [some (.inr (.inl 30)), some (.inl a_), some (.inl x), some (.inl y)], [.inl (s 3009), .inl y, .inr (.inl 30)], n, D, s, p, c)) rfl ?_
              have b19 : 0 ≤ (s 3009) ∧ (s 3009) ≤ 64 := hS 3009
              refine tb_ge (x := y) (y := (s 3009)) rfl rfl (by omega) (fun h20 => ?_) (fun h20 => ?_)
              · show tt Zi d 199 (52, [some (.inr (.inl 30)), some (.inl a_), some (.inl x), some (.inl y)], [.inr (.inl 30)], n, D, s, p, c) _
                refine tt_k 1 (S' := (53, [some (.inr (.inl 30)), some (.inl a_), some (.inl x), some (.inl y)], [.inl 2, .inr (.inl 30)], n, D, s, p, c)) rfl ?_
                exact K3 2  (by omega) (Or.inr (Or.inr (Or.inr (Or.inr (Or.inr (Or.inl ⟨h11, h12, h14, h15, h17, h18, h20, rfl⟩))))))
              · show tt Zi d 199 (48, [some (.inr (.inl 30)), some (.inl a_), some (.inl x), some (.inl y)], [.inr (.inl 30)], n, D, s, p, c) _
                refine tt_k 2 (S' := (53, [some (.inr (.inl 30)), some (.inl a_), some (.inl x), some (.inl y)], [.inl 0, .inr (.inl 30)], n, D, s, p, c)) rfl ?_
                exact K3 0  (by omega) (Or.inr (Or.inr (Or.inr (Or.inr (Or.inr (Or.inr (Or.inl ⟨h11, h12, h14, h15, h17, h18, h20, rfl⟩)))))))
  · show tt Zi d 199 (8, [some (.inr (.inl 30)), some (.inl a_), some (.inl x), some (.inl y)], [.inr (.inl 30)], n, D, s, p, c) _
    refine tt_k 2 (S' := (53, [some (.inr (.inl 30)), some (.inl a_), some (.inl x), some (.inl y)], [.inl 1, .inr (.inl 30)], n, D, s, p, c)) rfl ?_
    exact K3 1  (by omega) (Or.inr (Or.inr (Or.inr (Or.inr (Or.inr (Or.inr (Or.inr (⟨h11, rfl⟩))))))))
set_option maxRecDepth 100000 in
set_option maxHeartbeats 4000000 in
theorem k_about {Zi : Nat → Option (Nat × (Nat → Int))} {d n : Nat} {D : Nat → Nat × Nat} {s : Nat → Int} {p : Nat → Nat} {c : Nat → Nat → Int} (hd : 0 ≤ d) (hS : bS s) (hC : bC D c) (i : Int) (b_i : -2147483648 ≤ i ∧ i ≤ 2147483647) : tt Zi d 198 (0, [some (.inr (.inl 30)), some (.inl i)], [], n, D, s, p, c) (fun R H => ∃ (s' : Nat → Int) (r : Int), R = .inl (some (.inl r)) ∧ H = (n, D, s', p, c) ∧ bS s' ∧ fr s s' [3000] ∧ (0 ≤ r ∧ r ≤ 255)) := by
  refine tt_k 2 (S' := (2, [some (.inr (.inl 30)), some (.inl i)], [.inl i, .inr (.inl 30)], n, D, s, p, c)) rfl ?_
  have K2 : ∀ (j1 : Int) , (0 ≤ j1 ∧ j1 ≤ 2) → ((i < 0 ∧ j1 = 1) ∨ (0 ≤ i ∧ i ≤ 3 ∧ (s 3007) ≠ 0 ∧ j1 = 0) ∨ (0 ≤ i ∧ i ≤ 3 ∧ (s 3007) = 0 ∧ j1 = 2) ∨ (0 ≤ i ∧ 3 < i ∧ j1 = 1)) → tt Zi d 198 (26, [some (.inr (.inl 30)), some (.inl i)], [.inl j1, .inr (.inl 30)], n, D, s, p, c) (fun R H => ∃ (s' : Nat → Int) (r : Int), R = .inl (some (.inl r)) ∧ H = (n, D, s', p, c) ∧ bS s' ∧ fr s s' [3000] ∧ (0 ≤ r ∧ r ≤ 255)) := by
    intro j1 b4 hj3
    have b5 : 0 ≤ (s 3007) ∧ (s 3007) ≤ 1 := hS 3007
    refine tt_k 3 (S' := (33, [some (.inr (.inl 30)), some (.inl i)], [.inl j1], n, D, (us s 3000 j1), p, c)) rfl ?_
    refine tz_le (x := j1) rfl rfl (by omega) (fun h6 => ?_) (fun h6 => ?_)
    · show tt Zi d 198 (40, [some (.inr (.inl 30)), some (.inl i)], [], n, D, (us s 3000 j1), p, c) _
      refine tt_k 1 (S' := (41, [some (.inr (.inl 30)), some (.inl i)], [.inl i], n, D, (us s 3000 j1), p, c)) rfl ?_
      refine tz_ne (x := i) rfl rfl (by omega) (fun h7 => ?_) (fun h7 => ?_)
      · show tt Zi d 198 (51, [some (.inr (.inl 30)), some (.inl i)], [], n, D, (us s 3000 j1), p, c) _
        refine tt_k 2 (S' := (53, [some (.inr (.inl 30)), some (.inl i)], [.inl 1, .inl i], n, D, (us s 3000 j1), p, c)) rfl ?_
        refine tb_ne (x := i) (y := 1) rfl rfl (by omega) (fun h8 => ?_) (fun h8 => ?_)
        · show tt Zi d 198 (63, [some (.inr (.inl 30)), some (.inl i)], [], n, D, (us s 3000 j1), p, c) _
          refine tt_k 2 (S' := (65, [some (.inr (.inl 30)), some (.inl i)], [.inl 2, .inl i], n, D, (us s 3000 j1), p, c)) rfl ?_
          refine tb_ne (x := i) (y := 2) rfl rfl (by omega) (fun h9 => ?_) (fun h9 => ?_)
          · show tt Zi d 198 (75, [some (.inr (.inl 30)), some (.inl i)], [], n, D, (us s 3000 j1), p, c) _
            refine tt_k 2 (S' := (79, [some (.inr (.inl 30)), some (.inl i)], [.inl (s 3011)], n, D, (us s 3000 j1), p, c)) rfl ?_
            have b10 : 0 ≤ (s 3011) ∧ (s 3011) ≤ 255 := hS 3011
            exact tt_rti rfl rfl ⟨(us s 3000 j1), (s 3011), rfl, rfl, (bS_us hS (show 0 ≤ j1 ∧ j1 ≤ 2 by omega)), (fr_us (by decide) fr_rf), by omega⟩
          · show tt Zi d 198 (68, [some (.inr (.inl 30)), some (.inl i)], [], n, D, (us s 3000 j1), p, c) _
            refine tt_k 3 (S' := (79, [some (.inr (.inl 30)), some (.inl i)], [.inl (s 3010)], n, D, (us s 3000 j1), p, c)) rfl ?_
            have b11 : 0 ≤ (s 3010) ∧ (s 3010) ≤ 3 := hS 3010
            exact tt_rti rfl rfl ⟨(us s 3000 j1), (s 3010), rfl, rfl, (bS_us hS (show 0 ≤ j1 ∧ j1 ≤ 2 by omega)), (fr_us (by decide) fr_rf), by omega⟩
        · show tt Zi d 198 (56, [some (.inr (.inl 30)), some (.inl i)], [], n, D, (us s 3000 j1), p, c) _
          refine tt_k 3 (S' := (79, [some (.inr (.inl 30)), some (.inl i)], [.inl (s 3009)], n, D, (us s 3000 j1), p, c)) rfl ?_
          have b12 : 0 ≤ (s 3009) ∧ (s 3009) ≤ 64 := hS 3009
          exact tt_rti rfl rfl ⟨(us s 3000 j1), (s 3009), rfl, rfl, (bS_us hS (show 0 ≤ j1 ∧ j1 ≤ 2 by omega)), (fr_us (by decide) fr_rf), by omega⟩
      · show tt Zi d 198 (44, [some (.inr (.inl 30)), some (.inl i)], [], n, D, (us s 3000 j1), p, c) _
        refine tt_k 3 (S' := (79, [some (.inr (.inl 30)), some (.inl i)], [.inl (s 3008)], n, D, (us s 3000 j1), p, c)) rfl ?_
        have b13 : 0 ≤ (s 3008) ∧ (s 3008) ≤ 64 := hS 3008
        exact tt_rti rfl rfl ⟨(us s 3000 j1), (s 3008), rfl, rfl, (bS_us hS (show 0 ≤ j1 ∧ j1 ≤ 2 by omega)), (fr_us (by decide) fr_rf), by omega⟩
    · show tt Zi d 198 (36, [some (.inr (.inl 30)), some (.inl i)], [], n, D, (us s 3000 j1), p, c) _
      refine tt_k 2 (S' := (79, [some (.inr (.inl 30)), some (.inl i)], [.inl 0], n, D, (us s 3000 j1), p, c)) rfl ?_
      exact tt_rti rfl rfl ⟨(us s 3000 j1), 0, rfl, rfl, (bS_us hS (show 0 ≤ j1 ∧ j1 ≤ 2 by omega)), (fr_us (by decide) fr_rf), by omega⟩
  refine tz_lt (x := i) rfl rfl (by omega) (fun h14 => ?_) (fun h14 => ?_)
  · show tt Zi d 198 (10, [some (.inr (.inl 30)), some (.inl i)], [.inr (.inl 30)], n, D, s, p, c) _
    refine tt_k 2 (S' := (26, [some (.inr (.inl 30)), some (.inl i)], [.inl 1, .inr (.inl 30)], n, D, s, p, c)) rfl ?_
    exact K2 1  (by omega) (Or.inl ⟨h14, rfl⟩)
  · show tt Zi d 198 (5, [some (.inr (.inl 30)), some (.inl i)], [.inr (.inl 30)], n, D, s, p, c) _
    refine tt_k 2 (S' := (7, [some (.inr (.inl 30)), some (.inl i)], [.inl 3, .inl i, .inr (.inl 30)], n, D, s, p, c)) rfl ?_
    refine tb_le (x := i) (y := 3) rfl rfl (by omega) (fun h15 => ?_) (fun h15 => ?_)
    · show tt Zi d 198 (14, [some (.inr (.inl 30)), some (.inl i)], [.inr (.inl 30)], n, D, s, p, c) _
      refine tt_k 2 (S' := (18, [some (.inr (.inl 30)), some (.inl i)], [.inl (s 3007), .inr (.inl 30)], n, D, s, p, c)) rfl ?_
      have b16 : 0 ≤ (s 3007) ∧ (s 3007) ≤ 1 := hS 3007
      refine tz_ne (x := (s 3007)) rfl rfl (by omega) (fun h17 => ?_) (fun h17 => ?_)
      · show tt Zi d 198 (25, [some (.inr (.inl 30)), some (.inl i)], [.inr (.inl 30)], n, D, s, p, c) _
        refine tt_k 1 (S' := (26, [some (.inr (.inl 30)), some (.inl i)], [.inl 0, .inr (.inl 30)], n, D, s, p, c)) rfl ?_
        exact K2 0  (by omega) (Or.inr (Or.inl ⟨h14, h15, h17, rfl⟩))
      · show tt Zi d 198 (21, [some (.inr (.inl 30)), some (.inl i)], [.inr (.inl 30)], n, D, s, p, c) _
        refine tt_k 2 (S' := (26, [some (.inr (.inl 30)), some (.inl i)], [.inl 2, .inr (.inl 30)], n, D, s, p, c)) rfl ?_
        exact K2 2  (by omega) (Or.inr (Or.inr (Or.inl ⟨h14, h15, h17, rfl⟩)))
    · show tt Zi d 198 (10, [some (.inr (.inl 30)), some (.inl i)], [.inr (.inl 30)], n, D, s, p, c) _
      refine tt_k 2 (S' := (26, [some (.inr (.inl 30)), some (.inl i)], [.inl 1, .inr (.inl 30)], n, D, s, p, c)) rfl ?_
      exact K2 1  (by omega) (Or.inr (Or.inr (Or.inr (⟨h14, h15, rfl⟩))))
set_option maxRecDepth 100000 in
set_option maxHeartbeats 4000000 in
theorem k_learned {Zi : Nat → Option (Nat × (Nat → Int))} {d n : Nat} {D : Nat → Nat × Nat} {s : Nat → Int} {p : Nat → Nat} {c : Nat → Nat → Int} (hd : 0 ≤ d) (hS : bS s) (hC : bC D c) (i : Int) (j : Int) (b_i : -2147483648 ≤ i ∧ i ≤ 2147483647) (b_j : -2147483648 ≤ j ∧ j ≤ 2147483647) : tt Zi d 200 (0, [some (.inr (.inl 30)), some (.inl i), some (.inl j)], [], n, D, s, p, c) (fun R H => ∃ (s' : Nat → Int) (r : Int), R = .inl (some (.inl r)) ∧ H = (n, D, s', p, c) ∧ bS s' ∧ fr s s' [3000] ∧ (-2147483648 ≤ r ∧ r ≤ 2147483647)) := by
  refine tt_k 2 (S' := (2, [some (.inr (.inl 30)), some (.inl i), some (.inl j)], [.inl i, .inr (.inl 30)], n, D, s, p, c)) rfl ?_
  have K2 : ∀ (j1 : Int) , (0 ≤ j1 ∧ j1 ≤ 2) → ((i < 0 ∧ j1 = 1) ∨ (0 ≤ i ∧ i ≤ 366 ∧ j < 0 ∧ j1 = 2) ∨ (0 ≤ i ∧ i ≤ 366 ∧ 0 ≤ j ∧ j ≤ 3 ∧ j1 = 0) ∨ (0 ≤ i ∧ i ≤ 366 ∧ 0 ≤ j ∧ 3 < j ∧ j1 = 2) ∨ (0 ≤ i ∧ 366 < i ∧ j1 = 1)) → tt Zi d 200 (30, [some (.inr (.inl 30)), some (.inl i), some (.inl j)], [.inl j1, .inr (.inl 30)], n, D, s, p, c) (fun R H => ∃ (s' : Nat → Int) (r : Int), R = .inl (some (.inl r)) ∧ H = (n, D, s', p, c) ∧ bS s' ∧ fr s s' [3000] ∧ (-2147483648 ≤ r ∧ r ≤ 2147483647)) := by
    intro j1 b4 hj3
    refine tt_k 3 (S' := (37, [some (.inr (.inl 30)), some (.inl i), some (.inl j)], [.inl j1], n, D, (us s 3000 j1), p, c)) rfl ?_
    refine tz_le (x := j1) rfl rfl (by omega) (fun h5 => ?_) (fun h5 => ?_)
    · show tt Zi d 200 (44, [some (.inr (.inl 30)), some (.inl i), some (.inl j)], [], n, D, (us s 3000 j1), p, c) _
      refine tt_k 1 (S' := (45, [some (.inr (.inl 30)), some (.inl i), some (.inl j)], [.inl j], n, D, (us s 3000 j1), p, c)) rfl ?_
      refine tz_ne (x := j) rfl rfl (by omega) (fun h6 => ?_) (fun h6 => ?_)
      · show tt Zi d 200 (57, [some (.inr (.inl 30)), some (.inl i), some (.inl j)], [], n, D, (us s 3000 j1), p, c) _
        refine tt_k 2 (S' := (59, [some (.inr (.inl 30)), some (.inl i), some (.inl j)], [.inl 1, .inl j], n, D, (us s 3000 j1), p, c)) rfl ?_
        refine tb_ne (x := j) (y := 1) rfl rfl (by omega) (fun h7 => ?_) (fun h7 => ?_)
        · show tt Zi d 200 (71, [some (.inr (.inl 30)), some (.inl i), some (.inl j)], [], n, D, (us s 3000 j1), p, c) _
          refine tt_k 2 (S' := (73, [some (.inr (.inl 30)), some (.inl i), some (.inl j)], [.inl 2, .inl j], n, D, (us s 3000 j1), p, c)) rfl ?_
          refine tb_ne (x := j) (y := 2) rfl rfl (by omega) (fun h8 => ?_) (fun h8 => ?_)
          · show tt Zi d 200 (85, [some (.inr (.inl 30)), some (.inl i), some (.inl j)], [], n, D, (us s 3000 j1), p, c) _
            refine tt_k 3 (S' := (90, [some (.inr (.inl 30)), some (.inl i), some (.inl j)], [.inl i, .inr (.inl 43)], n, D, (us s 3000 j1), p, c)) rfl ?_
            refine tt_ildv (i := i) (v := (c 43 (i).toNat)) rfl rfl (by omega) rfl ?_
            show tt Zi d 200 (91, [some (.inr (.inl 30)), some (.inl i), some (.inl j)], [.inl (c 43 (i).toNat)], n, D, (us s 3000 j1), p, c) _
            have b9 : -2147483648 ≤ (c 43 (i).toNat) ∧ (c 43 (i).toNat) ≤ 2147483647 := hC 43 _
            exact tt_rti rfl rfl ⟨(us s 3000 j1), (c 43 (i).toNat), rfl, rfl, (bS_us hS (show 0 ≤ j1 ∧ j1 ≤ 2 by omega)), (fr_us (by decide) fr_rf), by omega⟩
          · show tt Zi d 200 (76, [some (.inr (.inl 30)), some (.inl i), some (.inl j)], [], n, D, (us s 3000 j1), p, c) _
            refine tt_k 3 (S' := (81, [some (.inr (.inl 30)), some (.inl i), some (.inl j)], [.inl i, .inr (.inl 42)], n, D, (us s 3000 j1), p, c)) rfl ?_
            refine tt_ildv (i := i) (v := (c 42 (i).toNat)) rfl rfl (by omega) rfl ?_
            show tt Zi d 200 (82, [some (.inr (.inl 30)), some (.inl i), some (.inl j)], [.inl (c 42 (i).toNat)], n, D, (us s 3000 j1), p, c) _
            have b10 : -2147483648 ≤ (c 42 (i).toNat) ∧ (c 42 (i).toNat) ≤ 2147483647 := hC 42 _
            refine tt_k 1 (S' := (91, [some (.inr (.inl 30)), some (.inl i), some (.inl j)], [.inl (c 42 (i).toNat)], n, D, (us s 3000 j1), p, c)) rfl ?_
            exact tt_rti rfl rfl ⟨(us s 3000 j1), (c 42 (i).toNat), rfl, rfl, (bS_us hS (show 0 ≤ j1 ∧ j1 ≤ 2 by omega)), (fr_us (by decide) fr_rf), by omega⟩
        · show tt Zi d 200 (62, [some (.inr (.inl 30)), some (.inl i), some (.inl j)], [], n, D, (us s 3000 j1), p, c) _
          refine tt_k 3 (S' := (67, [some (.inr (.inl 30)), some (.inl i), some (.inl j)], [.inl i, .inr (.inl 41)], n, D, (us s 3000 j1), p, c)) rfl ?_
          refine tt_ildv (i := i) (v := (c 41 (i).toNat)) rfl rfl (by omega) rfl ?_
          show tt Zi d 200 (68, [some (.inr (.inl 30)), some (.inl i), some (.inl j)], [.inl (c 41 (i).toNat)], n, D, (us s 3000 j1), p, c) _
          have b11 : -2147483648 ≤ (c 41 (i).toNat) ∧ (c 41 (i).toNat) ≤ 2147483647 := hC 41 _
          refine tt_k 1 (S' := (91, [some (.inr (.inl 30)), some (.inl i), some (.inl j)], [.inl (c 41 (i).toNat)], n, D, (us s 3000 j1), p, c)) rfl ?_
          exact tt_rti rfl rfl ⟨(us s 3000 j1), (c 41 (i).toNat), rfl, rfl, (bS_us hS (show 0 ≤ j1 ∧ j1 ≤ 2 by omega)), (fr_us (by decide) fr_rf), by omega⟩
      · show tt Zi d 200 (48, [some (.inr (.inl 30)), some (.inl i), some (.inl j)], [], n, D, (us s 3000 j1), p, c) _
        refine tt_k 3 (S' := (53, [some (.inr (.inl 30)), some (.inl i), some (.inl j)], [.inl i, .inr (.inl 40)], n, D, (us s 3000 j1), p, c)) rfl ?_
        refine tt_ildv (i := i) (v := (c 40 (i).toNat)) rfl rfl (by omega) rfl ?_
        show tt Zi d 200 (54, [some (.inr (.inl 30)), some (.inl i), some (.inl j)], [.inl (c 40 (i).toNat)], n, D, (us s 3000 j1), p, c) _
        have b12 : -2147483648 ≤ (c 40 (i).toNat) ∧ (c 40 (i).toNat) ≤ 2147483647 := hC 40 _
        refine tt_k 1 (S' := (91, [some (.inr (.inl 30)), some (.inl i), some (.inl j)], [.inl (c 40 (i).toNat)], n, D, (us s 3000 j1), p, c)) rfl ?_
        exact tt_rti rfl rfl ⟨(us s 3000 j1), (c 40 (i).toNat), rfl, rfl, (bS_us hS (show 0 ≤ j1 ∧ j1 ≤ 2 by omega)), (fr_us (by decide) fr_rf), by omega⟩
    · show tt Zi d 200 (40, [some (.inr (.inl 30)), some (.inl i), some (.inl j)], [], n, D, (us s 3000 j1), p, c) _
      refine tt_k 2 (S' := (91, [some (.inr (.inl 30)), some (.inl i), some (.inl j)], [.inl 0], n, D, (us s 3000 j1), p, c)) rfl ?_
      exact tt_rti rfl rfl ⟨(us s 3000 j1), 0, rfl, rfl, (bS_us hS (show 0 ≤ j1 ∧ j1 ≤ 2 by omega)), (fr_us (by decide) fr_rf), by omega⟩
  refine tz_lt (x := i) rfl rfl (by omega) (fun h13 => ?_) (fun h13 => ?_)
  · show tt Zi d 200 (12, [some (.inr (.inl 30)), some (.inl i), some (.inl j)], [.inr (.inl 30)], n, D, s, p, c) _
    refine tt_k 2 (S' := (30, [some (.inr (.inl 30)), some (.inl i), some (.inl j)], [.inl 1, .inr (.inl 30)], n, D, s, p, c)) rfl ?_
    exact K2 1  (by omega) (Or.inl ⟨h13, rfl⟩)
  · show tt Zi d 200 (5, [some (.inr (.inl 30)), some (.inl i), some (.inl j)], [.inr (.inl 30)], n, D, s, p, c) _
    refine tt_k 2 (S' := (9, [some (.inr (.inl 30)), some (.inl i), some (.inl j)], [.inl 366, .inl i, .inr (.inl 30)], n, D, s, p, c)) rfl ?_
    refine tb_le (x := i) (y := 366) rfl rfl (by omega) (fun h14 => ?_) (fun h14 => ?_)
    · show tt Zi d 200 (16, [some (.inr (.inl 30)), some (.inl i), some (.inl j)], [.inr (.inl 30)], n, D, s, p, c) _
      refine tt_k 1 (S' := (17, [some (.inr (.inl 30)), some (.inl i), some (.inl j)], [.inl j, .inr (.inl 30)], n, D, s, p, c)) rfl ?_
      refine tz_lt (x := j) rfl rfl (by omega) (fun h15 => ?_) (fun h15 => ?_)
      · show tt Zi d 200 (25, [some (.inr (.inl 30)), some (.inl i), some (.inl j)], [.inr (.inl 30)], n, D, s, p, c) _
        refine tt_k 2 (S' := (30, [some (.inr (.inl 30)), some (.inl i), some (.inl j)], [.inl 2, .inr (.inl 30)], n, D, s, p, c)) rfl ?_
        exact K2 2  (by omega) (Or.inr (Or.inl ⟨h13, h14, h15, rfl⟩))
      · show tt Zi d 200 (20, [some (.inr (.inl 30)), some (.inl i), some (.inl j)], [.inr (.inl 30)], n, D, s, p, c) _
        refine tt_k 2 (S' := (22, [some (.inr (.inl 30)), some (.inl i), some (.inl j)], [.inl 3, .inl j, .inr (.inl 30)], n, D, s, p, c)) rfl ?_
        refine tb_le (x := j) (y := 3) rfl rfl (by omega) (fun h16 => ?_) (fun h16 => ?_)
        · show tt Zi d 200 (29, [some (.inr (.inl 30)), some (.inl i), some (.inl j)], [.inr (.inl 30)], n, D, s, p, c) _
          refine tt_k 1 (S' := (30, [some (.inr (.inl 30)), some (.inl i), some (.inl j)], [.inl 0, .inr (.inl 30)], n, D, s, p, c)) rfl ?_
          exact K2 0  (by omega) (Or.inr (Or.inr (Or.inl ⟨h13, h14, h15, h16, rfl⟩)))
        · show tt Zi d 200 (25, [some (.inr (.inl 30)), some (.inl i), some (.inl j)], [.inr (.inl 30)], n, D, s, p, c) _
          refine tt_k 2 (S' := (30, [some (.inr (.inl 30)), some (.inl i), some (.inl j)], [.inl 2, .inr (.inl 30)], n, D, s, p, c)) rfl ?_
          exact K2 2  (by omega) (Or.inr (Or.inr (Or.inr (Or.inl ⟨h13, h14, h15, h16, rfl⟩))))
    · show tt Zi d 200 (12, [some (.inr (.inl 30)), some (.inl i), some (.inl j)], [.inr (.inl 30)], n, D, s, p, c) _
      refine tt_k 2 (S' := (30, [some (.inr (.inl 30)), some (.inl i), some (.inl j)], [.inl 1, .inr (.inl 30)], n, D, s, p, c)) rfl ?_
      exact K2 1  (by omega) (Or.inr (Or.inr (Or.inr (Or.inr (⟨h13, h14, rfl⟩)))))
set_option maxRecDepth 100000 in
set_option maxHeartbeats 4000000 in
theorem k_measures {Zi : Nat → Option (Nat × (Nat → Int))} {d n : Nat} {D : Nat → Nat × Nat} {s : Nat → Int} {p : Nat → Nat} {c : Nat → Nat → Int} (hd : 1 ≤ d) (hS : bS s) (hC : bC D c) (a1 : Int) (a2 : Int) (a3 : Int) (a4 : Int) (a5 : Int) (b_a1 : -2147483648 ≤ a1 ∧ a1 ≤ 2147483647) (b_a2 : -2147483648 ≤ a2 ∧ a2 ≤ 2147483647) (b_a3 : -2147483648 ≤ a3 ∧ a3 ≤ 2147483647) (b_a4 : -2147483648 ≤ a4 ∧ a4 ≤ 2147483647) (b_a5 : -2147483648 ≤ a5 ∧ a5 ≤ 2147483647) : tt Zi d 142 (0, [some (.inr (.inl 30)), some (.inl a1), some (.inl a2), some (.inl a3), some (.inl a4), some (.inl a5), none], [], n, D, s, p, c) (fun R H => ∃ (s' : Nat → Int) (c' : Nat → Nat → Int), R = .inl none ∧ H = (n, D, s', p, c') ∧ bS s' ∧ bC D c' ∧ fr s s' [3000] ∧ frc c c' [32]) := by
  refine tt_k 3 (S' := (4, [some (.inr (.inl 30)), some (.inl a1), some (.inl a2), some (.inl a3), some (.inl a4), some (.inl a5), none], [.inl 65535, .inl 0, .inl a1], n, D, s, p, c)) rfl ?_
  refine tt_cl (by omega) rfl (k_isIn (Zi := Zi) (D := D) (s := s) (p := p) (c := c) (by omega) hS hC a1 0 65535 (by omega) (by omega) (by omega)) ?_
  rintro _ _ ⟨r1, rfl, rfl, b2, k3⟩
  show tt Zi d 142 (7, [some (.inr (.inl 30)), some (.inl a1), some (.inl a2), some (.inl a3), some (.inl a4), some (.inl a5), none], [.inl r1], n, D, s, p, c) _
  have k3 : r1 = if 0 ≤ a1 ∧ a1 ≤ 65535 then (1 : Int) else 0 := k3
  subst k3
  show tt Zi d 142 (7, [some (.inr (.inl 30)), some (.inl a1), some (.inl a2), some (.inl a3), some (.inl a4), some (.inl a5), none], [.inl (if 0 ≤ a1 ∧ a1 ≤ 65535 then (1 : Int) else 0)], n, D, s, p, c) _
  have K5 : ∀ (j4 : Int) , (0 ≤ j4 ∧ j4 ≤ 1) → (((if 0 ≤ a1 ∧ a1 ≤ 65535 then (1 : Int) else 0) = 0 ∧ j4 = 0) ∨ ((if 0 ≤ a1 ∧ a1 ≤ 65535 then (1 : Int) else 0) ≠ 0 ∧ (if 0 ≤ a2 ∧ a2 ≤ 65535 then (1 : Int) else 0) = 0 ∧ j4 = 0) ∨ ((if 0 ≤ a1 ∧ a1 ≤ 65535 then (1 : Int) else 0) ≠ 0 ∧ (if 0 ≤ a2 ∧ a2 ≤ 65535 then (1 : Int) else 0) ≠ 0 ∧ (if 0 ≤ a3 ∧ a3 ≤ 65535 then (1 : Int) else 0) = 0 ∧ j4 = 0) ∨ ((if 0 ≤ a1 ∧ a1 ≤ 65535 then (1 : Int) else 0) ≠ 0 ∧ (if 0 ≤ a2 ∧ a2 ≤ 65535 then (1 : Int) else 0) ≠ 0 ∧ (if 0 ≤ a3 ∧ a3 ≤ 65535 then (1 : Int) else 0) ≠ 0 ∧ (if 0 ≤ a4 ∧ a4 ≤ 65535 then (1 : Int) else 0) = 0 ∧ j4 = 0) ∨ ((if 0 ≤ a1 ∧ a1 ≤ 65535 then (1 : Int) else 0) ≠ 0 ∧ (if 0 ≤ a2 ∧ a2 ≤ 65535 then (1 : Int) else 0) ≠ 0 ∧ (if 0 ≤ a3 ∧ a3 ≤ 65535 then (1 : Int) else 0) ≠ 0 ∧ (if 0 ≤ a4 ∧ a4 ≤ 65535 then (1 : Int) else 0) ≠ 0 ∧ (if 0 ≤ a5 ∧ a5 ≤ 65535 then (1 : Int) else 0) = 0 ∧ j4 = 0) ∨ ((if 0 ≤ a1 ∧ a1 ≤ 65535 then (1 : Int) else 0) ≠ 0 ∧ (if 0 ≤ a2 ∧ a2 ≤ 65535 then (1 : Int) else 0) ≠ 0 ∧ (if 0 ≤ a3 ∧ a3 ≤ 65535 then (1 : Int) else 0) ≠ 0 ∧ (if 0 ≤ a4 ∧ a4 ≤ 65535 then (1 : Int) else 0) ≠ 0 ∧ (if 0 ≤ a5 ∧ a5 ≤ 65535 then (1 : Int) else 0) ≠ 0 ∧ j4 = 1)) → tt Zi d 142 (57, [some (.inr (.inl 30)), some (.inl a1), some (.inl a2), some (.inl a3), some (.inl a4), some (.inl a5), none], [.inl j4], n, D, s, p, c) (fun R H => ∃ (s' : Nat → Int) (c' : Nat → Nat → Int), R = .inl none ∧ H = (n, D, s', p, c') ∧ bS s' ∧ bC D c' ∧ fr s s' [3000] ∧ frc c c' [32]) := by
    intro j4 b7 hj6
    refine tt_k 3 (S' := (62, [some (.inr (.inl 30)), some (.inl a1), some (.inl a2), some (.inl a3), some (.inl a4), some (.inl a5), some (.inl j4)], [.inl j4, .inr (.inl 30)], n, D, s, p, c)) rfl ?_
    have K9 : ∀ (j8 : Int) , (0 ≤ j8 ∧ j8 ≤ 1) → ((j4 = 0 ∧ j8 = 1) ∨ (j4 ≠ 0 ∧ (mi_shl 1 ((s 3004)) - 1) < a1 ∧ j8 = 1) ∨ (j4 ≠ 0 ∧ a1 ≤ (mi_shl 1 ((s 3004)) - 1) ∧ j8 = 0)) → tt Zi d 142 (78, [some (.inr (.inl 30)), some (.inl a1), some (.inl a2), some (.inl a3), some (.inl a4), some (.inl a5), some (.inl j4)], [.inl j8, .inr (.inl 30)], n, D, s, p, c) (fun R H => ∃ (s' : Nat → Int) (c' : Nat → Nat → Int), R = .inl none ∧ H = (n, D, s', p, c') ∧ bS s' ∧ bC D c' ∧ fr s s' [3000] ∧ frc c c' [32]) := by
      intro j8 b11 hj10
      have b12 : 2 ≤ (s 3004) ∧ (s 3004) ≤ 16 := hS 3004
      refine tt_k 3 (S' := (85, [some (.inr (.inl 30)), some (.inl a1), some (.inl a2), some (.inl a3), some (.inl a4), some (.inl a5), some (.inl j4)], [.inl j8], n, D, (us s 3000 j8), p, c)) rfl ?_
      refine tz_le (x := j8) rfl rfl (by omega) (fun h13 => ?_) (fun h13 => ?_)
      · show tt Zi d 142 (89, [some (.inr (.inl 30)), some (.inl a1), some (.inl a2), some (.inl a3), some (.inl a4), some (.inl a5), some (.inl j4)], [], n, D, (us s 3000 j8), p, c) _
        refine tt_k 4 (S' := (95, [some (.inr (.inl 30)), some (.inl a1), some (.inl a2), some (.inl a3), some (.inl a4), some (.inl a5), some (.inl j4)], [.inl a1, .inl 0, .inr (.inl 32)], n, D, (us s 3000 j8), p, c)) rfl ?_
        refine tt_ist (i := 0) (x := a1) rfl rfl (by omega) ?_
        show tt Zi d 142 (96, [some (.inr (.inl 30)), some (.inl a1), some (.inl a2), some (.inl a3), some (.inl a4), some (.inl a5), some (.inl j4)], [], n, D, (us s 3000 j8), p, (uc c 32 (ua (c 32) (0 : Int).toNat a1))) _
        refine tt_k 4 (S' := (102, [some (.inr (.inl 30)), some (.inl a1), some (.inl a2), some (.inl a3), some (.inl a4), some (.inl a5), some (.inl j4)], [.inl a2, .inl 1, .inr (.inl 32)], n, D, (us s 3000 j8), p, (uc c 32 (ua (c 32) (0 : Int).toNat a1)))) rfl ?_
        refine tt_ist (i := 1) (x := a2) rfl rfl (by omega) ?_
        show tt Zi d 142 (103, [some (.inr (.inl 30)), some (.inl a1), some (.inl a2), some (.inl a3), some (.inl a4), some (.inl a5), some (.inl j4)], [], n, D, (us s 3000 j8), p, (uc (uc c 32 (ua (c 32) (0 : Int).toNat a1)) 32 (ua (ua (c 32) (0 : Int).toNat a1) (1 : Int).toNat a2))) _
        refine tt_k 4 (S' := (109, [some (.inr (.inl 30)), some (.inl a1), some (.inl a2), some (.inl a3), some (.inl a4), some (.inl a5), some (.inl j4)], [.inl a3, .inl 2, .inr (.inl 32)], n, D, (us s 3000 j8), p, (uc (uc c 32 (ua (c 32) (0 : Int).toNat a1)) 32 (ua (ua (c 32) (0 : Int).toNat a1) (1 : Int).toNat a2)))) rfl ?_
        refine tt_ist (i := 2) (x := a3) rfl rfl (by omega) ?_
        show tt Zi d 142 (110, [some (.inr (.inl 30)), some (.inl a1), some (.inl a2), some (.inl a3), some (.inl a4), some (.inl a5), some (.inl j4)], [], n, D, (us s 3000 j8), p, (uc (uc (uc c 32 (ua (c 32) (0 : Int).toNat a1)) 32 (ua (ua (c 32) (0 : Int).toNat a1) (1 : Int).toNat a2)) 32 (ua (ua (ua (c 32) (0 : Int).toNat a1) (1 : Int).toNat a2) (2 : Int).toNat a3))) _
        refine tt_k 4 (S' := (117, [some (.inr (.inl 30)), some (.inl a1), some (.inl a2), some (.inl a3), some (.inl a4), some (.inl a5), some (.inl j4)], [.inl a4, .inl 3, .inr (.inl 32)], n, D, (us s 3000 j8), p, (uc (uc (uc c 32 (ua (c 32) (0 : Int).toNat a1)) 32 (ua (ua (c 32) (0 : Int).toNat a1) (1 : Int).toNat a2)) 32 (ua (ua (ua (c 32) (0 : Int).toNat a1) (1 : Int).toNat a2) (2 : Int).toNat a3)))) rfl ?_
        refine tt_ist (i := 3) (x := a4) rfl rfl (by omega) ?_
        show tt Zi d 142 (118, [some (.inr (.inl 30)), some (.inl a1), some (.inl a2), some (.inl a3), some (.inl a4), some (.inl a5), some (.inl j4)], [], n, D, (us s 3000 j8), p, (uc (uc (uc (uc c 32 (ua (c 32) (0 : Int).toNat a1)) 32 (ua (ua (c 32) (0 : Int).toNat a1) (1 : Int).toNat a2)) 32 (ua (ua (ua (c 32) (0 : Int).toNat a1) (1 : Int).toNat a2) (2 : Int).toNat a3)) 32 (ua (ua (ua (ua (c 32) (0 : Int).toNat a1) (1 : Int).toNat a2) (2 : Int).toNat a3) (3 : Int).toNat a4))) _
        refine tt_k 4 (S' := (125, [some (.inr (.inl 30)), some (.inl a1), some (.inl a2), some (.inl a3), some (.inl a4), some (.inl a5), some (.inl j4)], [.inl a5, .inl 4, .inr (.inl 32)], n, D, (us s 3000 j8), p, (uc (uc (uc (uc c 32 (ua (c 32) (0 : Int).toNat a1)) 32 (ua (ua (c 32) (0 : Int).toNat a1) (1 : Int).toNat a2)) 32 (ua (ua (ua (c 32) (0 : Int).toNat a1) (1 : Int).toNat a2) (2 : Int).toNat a3)) 32 (ua (ua (ua (ua (c 32) (0 : Int).toNat a1) (1 : Int).toNat a2) (2 : Int).toNat a3) (3 : Int).toNat a4)))) rfl ?_
        refine tt_ist (i := 4) (x := a5) rfl rfl (by omega) ?_
        show tt Zi d 142 (126, [some (.inr (.inl 30)), some (.inl a1), some (.inl a2), some (.inl a3), some (.inl a4), some (.inl a5), some (.inl j4)], [], n, D, (us s 3000 j8), p, (uc (uc (uc (uc (uc c 32 (ua (c 32) (0 : Int).toNat a1)) 32 (ua (ua (c 32) (0 : Int).toNat a1) (1 : Int).toNat a2)) 32 (ua (ua (ua (c 32) (0 : Int).toNat a1) (1 : Int).toNat a2) (2 : Int).toNat a3)) 32 (ua (ua (ua (ua (c 32) (0 : Int).toNat a1) (1 : Int).toNat a2) (2 : Int).toNat a3) (3 : Int).toNat a4)) 32 (ua (ua (ua (ua (ua (c 32) (0 : Int).toNat a1) (1 : Int).toNat a2) (2 : Int).toNat a3) (3 : Int).toNat a4) (4 : Int).toNat a5))) _
        exact tt_rtv rfl rfl ⟨(us s 3000 j8), (uc (uc (uc (uc (uc c 32 (ua (c 32) (0 : Int).toNat a1)) 32 (ua (ua (c 32) (0 : Int).toNat a1) (1 : Int).toNat a2)) 32 (ua (ua (ua (c 32) (0 : Int).toNat a1) (1 : Int).toNat a2) (2 : Int).toNat a3)) 32 (ua (ua (ua (ua (c 32) (0 : Int).toNat a1) (1 : Int).toNat a2) (2 : Int).toNat a3) (3 : Int).toNat a4)) 32 (ua (ua (ua (ua (ua (c 32) (0 : Int).toNat a1) (1 : Int).toNat a2) (2 : Int).toNat a3) (3 : Int).toNat a4) (4 : Int).toNat a5)), rfl, rfl, (bS_us hS (show 0 ≤ j8 ∧ j8 ≤ 2 by omega)), (bC_st (bC_st (bC_st (bC_st (bC_st hC (show 0 ≤ a1 ∧ a1 ≤ 65535 by omega)) (show 0 ≤ a2 ∧ a2 ≤ 65535 by omega)) (show 0 ≤ a3 ∧ a3 ≤ 65535 by omega)) (show 0 ≤ a4 ∧ a4 ≤ 65535 by omega)) (show 0 ≤ a5 ∧ a5 ≤ 65535 by omega)), (fr_us (by decide) fr_rf), (frc_uc (by decide) (frc_uc (by decide) (frc_uc (by decide) (frc_uc (by decide) (frc_uc (by decide) frc_rf)))))⟩
      · show tt Zi d 142 (88, [some (.inr (.inl 30)), some (.inl a1), some (.inl a2), some (.inl a3), some (.inl a4), some (.inl a5), some (.inl j4)], [], n, D, (us s 3000 j8), p, c) _
        exact tt_rtv rfl rfl ⟨(us s 3000 j8), c, rfl, rfl, (bS_us hS (show 0 ≤ j8 ∧ j8 ≤ 2 by omega)), hC, (fr_us (by decide) fr_rf), frc_rf⟩
    refine tz_eq (x := j4) rfl rfl (by omega) (fun h14 => ?_) (fun h14 => ?_)
    · show tt Zi d 142 (77, [some (.inr (.inl 30)), some (.inl a1), some (.inl a2), some (.inl a3), some (.inl a4), some (.inl a5), some (.inl j4)], [.inr (.inl 30)], n, D, s, p, c) _
      refine tt_k 1 (S' := (78, [some (.inr (.inl 30)), some (.inl a1), some (.inl a2), some (.inl a3), some (.inl a4), some (.inl a5), some (.inl j4)], [.inl 1, .inr (.inl 30)], n, D, s, p, c)) rfl ?_
      exact K9 1  (by omega) (Or.inl ⟨h14, rfl⟩)
    · show tt Zi d 142 (65, [some (.inr (.inl 30)), some (.inl a1), some (.inl a2), some (.inl a3), some (.inl a4), some (.inl a5), some (.inl j4)], [.inr (.inl 30)], n, D, s, p, c) _
      refine tt_k 2 (S' := (67, [some (.inr (.inl 30)), some (.inl a1), some (.inl a2), some (.inl a3), some (.inl a4), some (.inl a5), some (.inl j4)], [.inr (.inl 30), .inl a1, .inr (.inl 30)], n, D, s, p, c)) rfl ?_
      refine tt_cl (by omega) rfl (k_greatest (Zi := Zi) (D := D) (s := s) (p := p) (c := c) (by omega) hS hC ) ?_
      rintro _ _ ⟨r15, rfl, rfl, b16, k17⟩
      show tt Zi d 142 (70, [some (.inr (.inl 30)), some (.inl a1), some (.inl a2), some (.inl a3), some (.inl a4), some (.inl a5), some (.inl j4)], [.inl r15, .inl a1, .inr (.inl 30)], n, D, s, p, c) _
      have k17 : r15 = mi_shl 1 ((s 3004)) - 1 := k17
      subst k17
      show tt Zi d 142 (70, [some (.inr (.inl 30)), some (.inl a1), some (.inl a2), some (.inl a3), some (.inl a4), some (.inl a5), some (.inl j4)], [.inl ((mi_shl 1 ((s 3004)) - 1)), .inl a1, .inr (.inl 30)], n, D, s, p, c) _
      have b18 : 2 ≤ (s 3004) ∧ (s 3004) ≤ 16 := hS 3004
      refine tb_gt (x := a1) (y := (mi_shl 1 ((s 3004)) - 1)) rfl rfl (by omega) (fun h19 => ?_) (fun h19 => ?_)
      · show tt Zi d 142 (77, [some (.inr (.inl 30)), some (.inl a1), some (.inl a2), some (.inl a3), some (.inl a4), some (.inl a5), some (.inl j4)], [.inr (.inl 30)], n, D, s, p, c) _
        refine tt_k 1 (S' := (78, [some (.inr (.inl 30)), some (.inl a1), some (.inl a2), some (.inl a3), some (.inl a4), some (.inl a5), some (.inl j4)], [.inl 1, .inr (.inl 30)], n, D, s, p, c)) rfl ?_
        exact K9 1  (by omega) (Or.inr (Or.inl ⟨h14, h19, rfl⟩))
      · show tt Zi d 142 (73, [some (.inr (.inl 30)), some (.inl a1), some (.inl a2), some (.inl a3), some (.inl a4), some (.inl a5), some (.inl j4)], [.inr (.inl 30)], n, D, s, p, c) _
        refine tt_k 2 (S' := (78, [some (.inr (.inl 30)), some (.inl a1), some (.inl a2), some (.inl a3), some (.inl a4), some (.inl a5), some (.inl j4)], [.inl 0, .inr (.inl 30)], n, D, s, p, c)) rfl ?_
        exact K9 0  (by omega) (Or.inr (Or.inr (⟨h14, h19, rfl⟩)))
  refine tz_eq (x := (if 0 ≤ a1 ∧ a1 ≤ 65535 then (1 : Int) else 0)) rfl rfl (by omega) (fun h20 => ?_) (fun h20 => ?_)
  · show tt Zi d 142 (56, [some (.inr (.inl 30)), some (.inl a1), some (.inl a2), some (.inl a3), some (.inl a4), some (.inl a5), none], [], n, D, s, p, c) _
    refine tt_k 1 (S' := (57, [some (.inr (.inl 30)), some (.inl a1), some (.inl a2), some (.inl a3), some (.inl a4), some (.inl a5), none], [.inl 0], n, D, s, p, c)) rfl ?_
    exact K5 0  (by omega) (Or.inl ⟨h20, rfl⟩)
  · show tt Zi d 142 (10, [some (.inr (.inl 30)), some (.inl a1), some (.inl a2), some (.inl a3), some (.inl a4), some (.inl a5), none], [], n, D, s, p, c) _
    refine tt_k 3 (S' := (14, [some (.inr (.inl 30)), some (.inl a1), some (.inl a2), some (.inl a3), some (.inl a4), some (.inl a5), none], [.inl 65535, .inl 0, .inl a2], n, D, s, p, c)) rfl ?_
    refine tt_cl (by omega) rfl (k_isIn (Zi := Zi) (D := D) (s := s) (p := p) (c := c) (by omega) hS hC a2 0 65535 (by omega) (by omega) (by omega)) ?_
    rintro _ _ ⟨r21, rfl, rfl, b22, k23⟩
    show tt Zi d 142 (17, [some (.inr (.inl 30)), some (.inl a1), some (.inl a2), some (.inl a3), some (.inl a4), some (.inl a5), none], [.inl r21], n, D, s, p, c) _
    have k23 : r21 = if 0 ≤ a2 ∧ a2 ≤ 65535 then (1 : Int) else 0 := k23
    subst k23
    show tt Zi d 142 (17, [some (.inr (.inl 30)), some (.inl a1), some (.inl a2), some (.inl a3), some (.inl a4), some (.inl a5), none], [.inl (if 0 ≤ a2 ∧ a2 ≤ 65535 then (1 : Int) else 0)], n, D, s, p, c) _
    refine tz_eq (x := (if 0 ≤ a2 ∧ a2 ≤ 65535 then (1 : Int) else 0)) rfl rfl (by omega) (fun h24 => ?_) (fun h24 => ?_)
    · show tt Zi d 142 (56, [some (.inr (.inl 30)), some (.inl a1), some (.inl a2), some (.inl a3), some (.inl a4), some (.inl a5), none], [], n, D, s, p, c) _
      refine tt_k 1 (S' := (57, [some (.inr (.inl 30)), some (.inl a1), some (.inl a2), some (.inl a3), some (.inl a4), some (.inl a5), none], [.inl 0], n, D, s, p, c)) rfl ?_
      exact K5 0  (by omega) (Or.inr (Or.inl ⟨h20, h24, rfl⟩))
    · show tt Zi d 142 (20, [some (.inr (.inl 30)), some (.inl a1), some (.inl a2), some (.inl a3), some (.inl a4), some (.inl a5), none], [], n, D, s, p, c) _
      refine tt_k 3 (S' := (24, [some (.inr (.inl 30)), some (.inl a1), some (.inl a2), some (.inl a3), some (.inl a4), some (.inl a5), none], [.inl 65535, .inl 0, .inl a3], n, D, s, p, c)) rfl ?_
      refine tt_cl (by omega) rfl (k_isIn (Zi := Zi) (D := D) (s := s) (p := p) (c := c) (by omega) hS hC a3 0 65535 (by omega) (by omega) (by omega)) ?_
      rintro _ _ ⟨r25, rfl, rfl, b26, k27⟩
      show tt Zi d 142 (27, [some (.inr (.inl 30)), some (.inl a1), some (.inl a2), some (.inl a3), some (.inl a4), some (.inl a5), none], [.inl r25], n, D, s, p, c) _
      have k27 : r25 = if 0 ≤ a3 ∧ a3 ≤ 65535 then (1 : Int) else 0 := k27
      subst k27
      show tt Zi d 142 (27, [some (.inr (.inl 30)), some (.inl a1), some (.inl a2), some (.inl a3), some (.inl a4), some (.inl a5), none], [.inl (if 0 ≤ a3 ∧ a3 ≤ 65535 then (1 : Int) else 0)], n, D, s, p, c) _
      refine tz_eq (x := (if 0 ≤ a3 ∧ a3 ≤ 65535 then (1 : Int) else 0)) rfl rfl (by omega) (fun h28 => ?_) (fun h28 => ?_)
      · show tt Zi d 142 (56, [some (.inr (.inl 30)), some (.inl a1), some (.inl a2), some (.inl a3), some (.inl a4), some (.inl a5), none], [], n, D, s, p, c) _
        refine tt_k 1 (S' := (57, [some (.inr (.inl 30)), some (.inl a1), some (.inl a2), some (.inl a3), some (.inl a4), some (.inl a5), none], [.inl 0], n, D, s, p, c)) rfl ?_
        exact K5 0  (by omega) (Or.inr (Or.inr (Or.inl ⟨h20, h24, h28, rfl⟩)))
      · show tt Zi d 142 (30, [some (.inr (.inl 30)), some (.inl a1), some (.inl a2), some (.inl a3), some (.inl a4), some (.inl a5), none], [], n, D, s, p, c) _
        refine tt_k 3 (S' := (35, [some (.inr (.inl 30)), some (.inl a1), some (.inl a2), some (.inl a3), some (.inl a4), some (.inl a5), none], [.inl 65535, .inl 0, .inl a4], n, D, s, p, c)) rfl ?_
        refine tt_cl (by omega) rfl (k_isIn (Zi := Zi) (D := D) (s := s) (p := p) (c := c) (by omega) hS hC a4 0 65535 (by omega) (by omega) (by omega)) ?_
        rintro _ _ ⟨r29, rfl, rfl, b30, k31⟩
        show tt Zi d 142 (38, [some (.inr (.inl 30)), some (.inl a1), some (.inl a2), some (.inl a3), some (.inl a4), some (.inl a5), none], [.inl r29], n, D, s, p, c) _
        have k31 : r29 = if 0 ≤ a4 ∧ a4 ≤ 65535 then (1 : Int) else 0 := k31
        subst k31
        show tt Zi d 142 (38, [some (.inr (.inl 30)), some (.inl a1), some (.inl a2), some (.inl a3), some (.inl a4), some (.inl a5), none], [.inl (if 0 ≤ a4 ∧ a4 ≤ 65535 then (1 : Int) else 0)], n, D, s, p, c) _
        refine tz_eq (x := (if 0 ≤ a4 ∧ a4 ≤ 65535 then (1 : Int) else 0)) rfl rfl (by omega) (fun h32 => ?_) (fun h32 => ?_)
        · show tt Zi d 142 (56, [some (.inr (.inl 30)), some (.inl a1), some (.inl a2), some (.inl a3), some (.inl a4), some (.inl a5), none], [], n, D, s, p, c) _
          refine tt_k 1 (S' := (57, [some (.inr (.inl 30)), some (.inl a1), some (.inl a2), some (.inl a3), some (.inl a4), some (.inl a5), none], [.inl 0], n, D, s, p, c)) rfl ?_
          exact K5 0  (by omega) (Or.inr (Or.inr (Or.inr (Or.inl ⟨h20, h24, h28, h32, rfl⟩))))
        · show tt Zi d 142 (41, [some (.inr (.inl 30)), some (.inl a1), some (.inl a2), some (.inl a3), some (.inl a4), some (.inl a5), none], [], n, D, s, p, c) _
          refine tt_k 3 (S' := (46, [some (.inr (.inl 30)), some (.inl a1), some (.inl a2), some (.inl a3), some (.inl a4), some (.inl a5), none], [.inl 65535, .inl 0, .inl a5], n, D, s, p, c)) rfl ?_
          refine tt_cl (by omega) rfl (k_isIn (Zi := Zi) (D := D) (s := s) (p := p) (c := c) (by omega) hS hC a5 0 65535 (by omega) (by omega) (by omega)) ?_
          rintro _ _ ⟨r33, rfl, rfl, b34, k35⟩
          show tt Zi d 142 (49, [some (.inr (.inl 30)), some (.inl a1), some (.inl a2), some (.inl a3), some (.inl a4), some (.inl a5), none], [.inl r33], n, D, s, p, c) _
          have k35 : r33 = if 0 ≤ a5 ∧ a5 ≤ 65535 then (1 : Int) else 0 := k35
          subst k35
          show tt Zi d 142 (49, [some (.inr (.inl 30)), some (.inl a1), some (.inl a2), some (.inl a3), some (.inl a4), some (.inl a5), none], [.inl (if 0 ≤ a5 ∧ a5 ≤ 65535 then (1 : Int) else 0)], n, D, s, p, c) _
          refine tz_eq (x := (if 0 ≤ a5 ∧ a5 ≤ 65535 then (1 : Int) else 0)) rfl rfl (by omega) (fun h36 => ?_) (fun h36 => ?_)
          · show tt Zi d 142 (56, [some (.inr (.inl 30)), some (.inl a1), some (.inl a2), some (.inl a3), some (.inl a4), some (.inl a5), none], [], n, D, s, p, c) _
            refine tt_k 1 (S' := (57, [some (.inr (.inl 30)), some (.inl a1), some (.inl a2), some (.inl a3), some (.inl a4), some (.inl a5), none], [.inl 0], n, D, s, p, c)) rfl ?_
            exact K5 0  (by omega) (Or.inr (Or.inr (Or.inr (Or.inr (Or.inl ⟨h20, h24, h28, h32, h36, rfl⟩)))))
          · show tt Zi d 142 (52, [some (.inr (.inl 30)), some (.inl a1), some (.inl a2), some (.inl a3), some (.inl a4), some (.inl a5), none], [], n, D, s, p, c) _
            refine tt_k 2 (S' := (57, [some (.inr (.inl 30)), some (.inl a1), some (.inl a2), some (.inl a3), some (.inl a4), some (.inl a5), none], [.inl 1], n, D, s, p, c)) rfl ?_
            exact K5 1  (by omega) (Or.inr (Or.inr (Or.inr (Or.inr (Or.inr (⟨h20, h24, h28, h32, h36, rfl⟩))))))
set_option maxRecDepth 100000 in
set_option maxHeartbeats 4000000 in
theorem k_change {Zi : Nat → Option (Nat × (Nat → Int))} {d n : Nat} {D : Nat → Nat × Nat} {s : Nat → Int} {p : Nat → Nat} {c : Nat → Nat → Int} (hd : 0 ≤ d) (hS : bS s) (hC : bC D c) (i : Int) (y : Int) (b_i : -2147483648 ≤ i ∧ i ≤ 2147483647) (b_y : -2147483648 ≤ y ∧ y ≤ 2147483647) : tt Zi d 183 (0, [some (.inr (.inl 30)), some (.inl i), some (.inl y)], [], n, D, s, p, c) (fun R H => ∃ (s' : Nat → Int) (c' : Nat → Nat → Int) (r : Int), R = .inl (some (.inl r)) ∧ H = (n, D, s', p, c') ∧ bS s' ∧ bC D c' ∧ fr s s' [3000] ∧ frc c c' [34] ∧ (0 ≤ r ∧ r ≤ 255)) := by
  refine tt_k 2 (S' := (2, [some (.inr (.inl 30)), some (.inl i), some (.inl y)], [.inl i, .inr (.inl 30)], n, D, s, p, c)) rfl ?_
  have K2 : ∀ (j1 : Int) , (0 ≤ j1 ∧ j1 ≤ 2) → ((i < 0 ∧ j1 = 1) ∨ (0 ≤ i ∧ i < (s 3014) ∧ y < 0 ∧ j1 = 2) ∨ (0 ≤ i ∧ i < (s 3014) ∧ 0 ≤ y ∧ y ≤ 255 ∧ j1 = 0) ∨ (0 ≤ i ∧ i < (s 3014) ∧ 0 ≤ y ∧ 255 < y ∧ j1 = 2) ∨ (0 ≤ i ∧ (s 3014) ≤ i ∧ j1 = 1)) → tt Zi d 183 (33, [some (.inr (.inl 30)), some (.inl i), some (.inl y)], [.inl j1, .inr (.inl 30)], n, D, s, p, c) (fun R H => ∃ (s' : Nat → Int) (c' : Nat → Nat → Int) (r : Int), R = .inl (some (.inl r)) ∧ H = (n, D, s', p, c') ∧ bS s' ∧ bC D c' ∧ fr s s' [3000] ∧ frc c c' [34] ∧ (0 ≤ r ∧ r ≤ 255)) := by
    intro j1 b4 hj3
    have b5 : 0 ≤ (s 3014) ∧ (s 3014) ≤ 32768 := hS 3014
    refine tt_k 3 (S' := (40, [some (.inr (.inl 30)), some (.inl i), some (.inl y)], [.inl j1], n, D, (us s 3000 j1), p, c)) rfl ?_
    refine tz_le (x := j1) rfl rfl (by omega) (fun h6 => ?_) (fun h6 => ?_)
    · show tt Zi d 183 (45, [some (.inr (.inl 30)), some (.inl i), some (.inl y)], [], n, D, (us s 3000 j1), p, c) _
      refine tt_k 6 (S' := (55, [some (.inr (.inl 30)), some (.inl i), some (.inl y)], [.inl i, .inr (.inl 34), .inl i, .inr (.inl 34)], n, D, (us s 3000 j1), p, c)) rfl ?_
      refine tt_bldv (i := i) (v := (c 34 (i).toNat)) rfl rfl (by omega) rfl ?_
      show tt Zi d 183 (56, [some (.inr (.inl 30)), some (.inl i), some (.inl y)], [.inl (c 34 (i).toNat), .inl i, .inr (.inl 34)], n, D, (us s 3000 j1), p, c) _
      have b7 : -128 ≤ (c 34 (i).toNat) ∧ (c 34 (i).toNat) ≤ 127 := hC 34 _
      refine tt_k 3 (S' := (59, [some (.inr (.inl 30)), some (.inl i), some (.inl y)], [.inl ((mi_i2b (mi_xor (c 34 (i).toNat) y))), .inl i, .inr (.inl 34)], n, D, (us s 3000 j1), p, c)) rfl ?_
      have e8 := mi_xor_bd (c 34 (i).toNat) y
      have e9 := mi_i2b_bd ((mi_xor (c 34 (i).toNat) y))
      refine tt_bst (i := i) (x := (mi_i2b (mi_xor (c 34 (i).toNat) y))) rfl rfl (by omega) ?_
      show tt Zi d 183 (60, [some (.inr (.inl 30)), some (.inl i), some (.inl y)], [], n, D, (us s 3000 j1), p, (uc c 34 (ua (c 34) (i).toNat (mi_nb ((mi_i2b (mi_xor (c 34 (i).toNat) y))))))) _
      refine tt_k 3 (S' := (65, [some (.inr (.inl 30)), some (.inl i), some (.inl y)], [.inl i, .inr (.inl 34)], n, D, (us s 3000 j1), p, (uc c 34 (ua (c 34) (i).toNat (mi_nb ((mi_i2b (mi_xor (c 34 (i).toNat) y)))))))) rfl ?_
      refine tt_bldv (i := i) (v := (mi_nb (mi_i2b (mi_xor (c 34 (i).toNat) y)))) rfl rfl (by omega) ua_eq ?_
      show tt Zi d 183 (66, [some (.inr (.inl 30)), some (.inl i), some (.inl y)], [.inl ((mi_nb (mi_i2b (mi_xor (c 34 (i).toNat) y))))], n, D, (us s 3000 j1), p, (uc c 34 (ua (c 34) (i).toNat (mi_nb ((mi_i2b (mi_xor (c 34 (i).toNat) y))))))) _
      refine tt_k 2 (S' := (70, [some (.inr (.inl 30)), some (.inl i), some (.inl y)], [.inl ((mi_and (mi_nb (mi_i2b (mi_xor (c 34 (i).toNat) y))) 255))], n, D, (us s 3000 j1), p, (uc c 34 (ua (c 34) (i).toNat (mi_nb ((mi_i2b (mi_xor (c 34 (i).toNat) y)))))))) rfl ?_
      have e10 := mi_and255 ((mi_nb (mi_i2b (mi_xor (c 34 (i).toNat) y))))
      exact tt_rti rfl rfl ⟨(us s 3000 j1), (uc c 34 (ua (c 34) (i).toNat (mi_nb ((mi_i2b (mi_xor (c 34 (i).toNat) y)))))), (mi_and (mi_nb (mi_i2b (mi_xor (c 34 (i).toNat) y))) 255), rfl, rfl, (bS_us hS (show 0 ≤ j1 ∧ j1 ≤ 2 by omega)), (bC_st hC (mi_nb_bd _)), (fr_us (by decide) fr_rf), (frc_uc (by decide) frc_rf), by omega⟩
    · show tt Zi d 183 (43, [some (.inr (.inl 30)), some (.inl i), some (.inl y)], [], n, D, (us s 3000 j1), p, c) _
      refine tt_k 1 (S' := (44, [some (.inr (.inl 30)), some (.inl i), some (.inl y)], [.inl 0], n, D, (us s 3000 j1), p, c)) rfl ?_
      exact tt_rti rfl rfl ⟨(us s 3000 j1), c, 0, rfl, rfl, (bS_us hS (show 0 ≤ j1 ∧ j1 ≤ 2 by omega)), hC, (fr_us (by decide) fr_rf), frc_rf, by omega⟩
  refine tz_lt (x := i) rfl rfl (by omega) (fun h11 => ?_) (fun h11 => ?_)
  · show tt Zi d 183 (13, [some (.inr (.inl 30)), some (.inl i), some (.inl y)], [.inr (.inl 30)], n, D, s, p, c) _
    refine tt_k 2 (S' := (33, [some (.inr (.inl 30)), some (.inl i), some (.inl y)], [.inl 1, .inr (.inl 30)], n, D, s, p, c)) rfl ?_
    exact K2 1  (by omega) (Or.inl ⟨h11, rfl⟩)
  · show tt Zi d 183 (5, [some (.inr (.inl 30)), some (.inl i), some (.inl y)], [.inr (.inl 30)], n, D, s, p, c) _
    refine tt_k 3 (S' := (10, [some (.inr (.inl 30)), some (.inl i), some (.inl y)], [.inl (s 3014), .inl i, .inr (.inl 30)], n, D, s, p, c)) rfl ?_
    have b12 : 0 ≤ (s 3014) ∧ (s 3014) ≤ 32768 := hS 3014
    refine tb_lt (x := i) (y := (s 3014)) rfl rfl (by omega) (fun h13 => ?_) (fun h13 => ?_)
    · show tt Zi d 183 (17, [some (.inr (.inl 30)), some (.inl i), some (.inl y)], [.inr (.inl 30)], n, D, s, p, c) _
      refine tt_k 1 (S' := (18, [some (.inr (.inl 30)), some (.inl i), some (.inl y)], [.inl y, .inr (.inl 30)], n, D, s, p, c)) rfl ?_
      refine tz_lt (x := y) rfl rfl (by omega) (fun h14 => ?_) (fun h14 => ?_)
      · show tt Zi d 183 (28, [some (.inr (.inl 30)), some (.inl i), some (.inl y)], [.inr (.inl 30)], n, D, s, p, c) _
        refine tt_k 2 (S' := (33, [some (.inr (.inl 30)), some (.inl i), some (.inl y)], [.inl 2, .inr (.inl 30)], n, D, s, p, c)) rfl ?_
        exact K2 2  (by omega) (Or.inr (Or.inl ⟨h11, h13, h14, rfl⟩))
      · show tt Zi d 183 (21, [some (.inr (.inl 30)), some (.inl i), some (.inl y)], [.inr (.inl 30)], n, D, s, p, c) _
        refine tt_k 2 (S' := (25, [some (.inr (.inl 30)), some (.inl i), some (.inl y)], [.inl 255, .inl y, .inr (.inl 30)], n, D, s, p, c)) rfl ?_
        refine tb_le (x := y) (y := 255) rfl rfl (by omega) (fun h15 => ?_) (fun h15 => ?_)
        · show tt Zi d 183 (32, [some (.inr (.inl 30)), some (.inl i), some (.inl y)], [.inr (.inl 30)], n, D, s, p, c) _
          refine tt_k 1 (S' := (33, [some (.inr (.inl 30)), some (.inl i), some (.inl y)], [.inl 0, .inr (.inl 30)], n, D, s, p, c)) rfl ?_
          exact K2 0  (by omega) (Or.inr (Or.inr (Or.inl ⟨h11, h13, h14, h15, rfl⟩)))
        · show tt Zi d 183 (28, [some (.inr (.inl 30)), some (.inl i), some (.inl y)], [.inr (.inl 30)], n, D, s, p, c) _
          refine tt_k 2 (S' := (33, [some (.inr (.inl 30)), some (.inl i), some (.inl y)], [.inl 2, .inr (.inl 30)], n, D, s, p, c)) rfl ?_
          exact K2 2  (by omega) (Or.inr (Or.inr (Or.inr (Or.inl ⟨h11, h13, h14, h15, rfl⟩))))
    · show tt Zi d 183 (13, [some (.inr (.inl 30)), some (.inl i), some (.inl y)], [.inr (.inl 30)], n, D, s, p, c) _
      refine tt_k 2 (S' := (33, [some (.inr (.inl 30)), some (.inl i), some (.inl y)], [.inl 1, .inr (.inl 30)], n, D, s, p, c)) rfl ?_
      exact K2 1  (by omega) (Or.inr (Or.inr (Or.inr (Or.inr (⟨h11, h13, rfl⟩)))))
set_option maxRecDepth 100000 in
set_option maxHeartbeats 4000000 in
theorem k_type_L3 {Zi : Nat → Option (Nat × (Nat → Int))} {d n : Nat} {D : Nat → Nat × Nat} {s : Nat → Int} {p : Nat → Nat} {c : Nat → Nat → Int}  {Q : mi_Rs → mi_H → Prop} (hd : 0 ≤ d) (hS : bS s) (hC : bC D c) (U : Int) (hU : U ≤ 32768) (v : Int) (b_v : -2147483648 ≤ v ∧ v ≤ 2147483647)
  (hK : ∀ (k : Int) (s0 : Nat → Int) (c0 : Nat → Nat → Int) (b_k : -8 ≤ k ∧ k ≤ 24) (hS0 : bS s0) (hF0 : fr s s0 [3014]) (hC0 : bC D c0) (hG0 : frc c c0 [34]) (i0 : 8 * s0 3014 + k + 8 = 8 * U), k = -8 → tt Zi d 181 (36, [some (.inr (.inl 30)), some (.inl v), some (.inl k)], [], n, D, s0, p, c0) Q) :
  ∀ (m : Nat) (k : Int) (s0 : Nat → Int) (c0 : Nat → Nat → Int) (b_k : -8 ≤ k ∧ k ≤ 24) (hS0 : bS s0) (hF0 : fr s s0 [3014]) (hC0 : bC D c0) (hG0 : frc c c0 [34]) (i0 : 8 * s0 3014 + k + 8 = 8 * U), (k + 8).toNat < m → tt Zi d 181 (3, [some (.inr (.inl 30)), some (.inl v), some (.inl k)], [], n, D, s0, p, c0) Q := by
  intro m
  induction m with
  | zero => intro k s0 c0 b_k hS0 hF0 hC0 hG0 i0 hm; exact absurd hm (by omega)
  | succ m ih =>
    intro k s0 c0 b_k hS0 hF0 hC0 hG0 i0 hm
    refine tt_k 1 (S' := (4, [some (.inr (.inl 30)), some (.inl v), some (.inl k)], [.inl k], n, D, s0, p, c0)) rfl ?_
    refine tz_lt (x := k) rfl rfl (by omega) (fun h1 => ?_) (fun h1 => ?_)
    · show tt Zi d 181 (36, [some (.inr (.inl 30)), some (.inl v), some (.inl k)], [], n, D, s0, p, c0) _
      exact hK k s0 c0 (by omega) hS0 hF0 hC0 hG0 (show 8 * (s0 3014) + k + 8 = 8 * U by omega) (by omega)
    · show tt Zi d 181 (7, [some (.inr (.inl 30)), some (.inl v), some (.inl k)], [], n, D, s0, p, c0) _
      refine tt_k 8 (S' := (19, [some (.inr (.inl 30)), some (.inl v), some (.inl k)], [.inl (mi_i2b (mi_shr v k)), .inl (s0 3014), .inr (.inl 34)], n, D, s0, p, c0)) rfl ?_
      have b2 : 0 ≤ (s0 3014) ∧ (s0 3014) ≤ 32768 := hS0 3014
      have e3 := mi_shr_bd v k
      have e4 := mi_i2b_bd (mi_shr v k)
      refine tt_bst (i := (s0 3014)) (x := (mi_i2b (mi_shr v k))) rfl rfl (by omega) ?_
      show tt Zi d 181 (20, [some (.inr (.inl 30)), some (.inl v), some (.inl k)], [], n, D, s0, p, (uc c0 34 (ua (c0 34) ((s0 3014)).toNat (mi_nb (mi_i2b (mi_shr v k)))))) _
      refine tt_k 8 (S' := (3, [some (.inr (.inl 30)), some (.inl v), some (.inl (k + (-8)))], [], n, D, (us s0 3014 ((s0 3014) + 1)), p, (uc c0 34 (ua (c0 34) ((s0 3014)).toNat (mi_nb (mi_i2b (mi_shr v k))))))) rfl ?_
      exact ih (k + (-8)) (us s0 3014 ((s0 3014) + 1)) (uc c0 34 (ua (c0 34) ((s0 3014)).toNat (mi_nb (mi_i2b (mi_shr v k))))) (by omega) (bS_us hS0 (show 0 ≤ ((s0 3014) + 1) ∧ ((s0 3014) + 1) ≤ 32768 by omega)) (fr_us (by decide) hF0) (bC_st hC0 (mi_nb_bd _)) (frc_uc (by decide) hG0) (show 8 * ((s0 3014) + 1) + (k + (-8)) + 8 = 8 * U by omega) (show ((k + (-8)) + 8).toNat < m by omega)
set_option maxRecDepth 100000 in
set_option maxHeartbeats 4000000 in
theorem k_type {Zi : Nat → Option (Nat × (Nat → Int))} {d n : Nat} {D : Nat → Nat × Nat} {s : Nat → Int} {p : Nat → Nat} {c : Nat → Nat → Int} (hd : 0 ≤ d) (hS : bS s) (hC : bC D c) (v : Int) (b_v : -2147483648 ≤ v ∧ v ≤ 2147483647) (hp0 : s 3014 ≤ 32764) : tt Zi d 181 (0, [some (.inr (.inl 30)), some (.inl v), none], [], n, D, s, p, c) (fun R H => ∃ (s' : Nat → Int) (c' : Nat → Nat → Int), R = .inl none ∧ H = (n, D, s', p, c') ∧ bS s' ∧ bC D c' ∧ fr s s' [3014] ∧ frc c c' [34] ∧ (s' 3014 = s 3014 + 4)) := by
  refine tt_k 2 (S' := (3, [some (.inr (.inl 30)), some (.inl v), some (.inl 24)], [], n, D, s, p, c)) rfl ?_
  refine k_type_L3 (Zi := Zi) (D := D) (s := s) (p := p) (c := c) hd hS hC (s 3014 + 4) (by omega) v (by omega) ?_ _ 24 s c (by omega) hS fr_rf hC frc_rf (show 8 * ((s 3014)) + 24 + 8 = 8 * (s 3014 + 4) by omega) (Nat.lt_succ_self _)
  intro x1 s2 c3 b4 hS2 f5 hC3 g6 i7 hx8
  show tt Zi d 181 (36, [some (.inr (.inl 30)), some (.inl v), some (.inl x1)], [], n, D, s2, p, c3) _
  exact tt_rtv rfl rfl ⟨s2, c3, rfl, rfl, hS2, hC3, (fr_tr fr_rf f5 (by decide)), (frc_tr frc_rf g6 (by decide)), by show (s2 3014) = s 3014 + 4; omega⟩
set_option maxRecDepth 100000 in
set_option maxHeartbeats 4000000 in
theorem k_feed {Zi : Nat → Option (Nat × (Nat → Int))} {d n : Nat} {D : Nat → Nat × Nat} {s : Nat → Int} {p : Nat → Nat} {c : Nat → Nat → Int} (hd : 1 ≤ d) (hS : bS s) (hC : bC D c) (a1 : Int) (a2 : Int) (a3 : Int) (a4 : Int) (a5 : Int) (b_a1 : -2147483648 ≤ a1 ∧ a1 ≤ 2147483647) (b_a2 : -2147483648 ≤ a2 ∧ a2 ≤ 2147483647) (b_a3 : -2147483648 ≤ a3 ∧ a3 ≤ 2147483647) (b_a4 : -2147483648 ≤ a4 ∧ a4 ≤ 2147483647) (b_a5 : -2147483648 ≤ a5 ∧ a5 ≤ 2147483647) : tt Zi d 180 (0, [some (.inr (.inl 30)), some (.inl a1), some (.inl a2), some (.inl a3), some (.inl a4), some (.inl a5)], [], n, D, s, p, c) (fun R H => ∃ (s' : Nat → Int) (c' : Nat → Nat → Int) (r : Int), R = .inl (some (.inl r)) ∧ H = (n, D, s', p, c') ∧ bS s' ∧ bC D c' ∧ fr s s' [3000, 3014] ∧ frc c c' [34] ∧ (0 ≤ r ∧ r ≤ 32768)) := by
  refine tt_k 6 (S' := (10, [some (.inr (.inl 30)), some (.inl a1), some (.inl a2), some (.inl a3), some (.inl a4), some (.inl a5)], [.inl 32768, .inl ((s 3014) + 20), .inr (.inl 30)], n, D, s, p, c)) rfl ?_
  have b1 : 0 ≤ (s 3014) ∧ (s 3014) ≤ 32768 := hS 3014
  have K3 : ∀ (j2 : Int) , (0 ≤ j2 ∧ j2 ≤ 1) → ((((s 3014) + 20) ≤ 32768 ∧ j2 = 0) ∨ (32768 < ((s 3014) + 20) ∧ j2 = 1)) → tt Zi d 180 (18, [some (.inr (.inl 30)), some (.inl a1), some (.inl a2), some (.inl a3), some (.inl a4), some (.inl a5)], [.inl j2, .inr (.inl 30)], n, D, s, p, c) (fun R H => ∃ (s' : Nat → Int) (c' : Nat → Nat → Int) (r : Int), R = .inl (some (.inl r)) ∧ H = (n, D, s', p, c') ∧ bS s' ∧ bC D c' ∧ fr s s' [3000, 3014] ∧ frc c c' [34] ∧ (0 ≤ r ∧ r ≤ 32768)) := by
    intro j2 b5 hj4
    refine tt_k 3 (S' := (25, [some (.inr (.inl 30)), some (.inl a1), some (.inl a2), some (.inl a3), some (.inl a4), some (.inl a5)], [.inl j2], n, D, (us s 3000 j2), p, c)) rfl ?_
    refine tz_le (x := j2) rfl rfl (by omega) (fun h6 => ?_) (fun h6 => ?_)
    · show tt Zi d 180 (30, [some (.inr (.inl 30)), some (.inl a1), some (.inl a2), some (.inl a3), some (.inl a4), some (.inl a5)], [], n, D, (us s 3000 j2), p, c) _
      refine tt_k 2 (S' := (32, [some (.inr (.inl 30)), some (.inl a1), some (.inl a2), some (.inl a3), some (.inl a4), some (.inl a5)], [.inl a1, .inr (.inl 30)], n, D, (us s 3000 j2), p, c)) rfl ?_
      refine tt_cl (by omega) rfl (k_type (Zi := Zi) (D := D) (s := (us s 3000 j2)) (p := p) (c := c) (by omega) (bS_us hS (show 0 ≤ j2 ∧ j2 ≤ 2 by omega)) hC a1 (by omega) (show (s 3014) ≤ 32764 by omega)) ?_
      rintro _ _ ⟨s7, c8, rfl, rfl, hS7, hC8, f9, g10, k11⟩
      show tt Zi d 180 (35, [some (.inr (.inl 30)), some (.inl a1), some (.inl a2), some (.inl a3), some (.inl a4), some (.inl a5)], [], n, D, s7, p, c8) _
      have k11 : (s7 3014) = (s 3014) + 4 := k11
      have b12 : 0 ≤ (s7 3014) ∧ (s7 3014) ≤ 32768 := hS7 3014
      refine tt_k 2 (S' := (37, [some (.inr (.inl 30)), some (.inl a1), some (.inl a2), some (.inl a3), some (.inl a4), some (.inl a5)], [.inl a2, .inr (.inl 30)], n, D, s7, p, c8)) rfl ?_
      refine tt_cl (by omega) rfl (k_type (Zi := Zi) (D := D) (s := s7) (p := p) (c := c8) (by omega) hS7 hC8 a2 (by omega) (show (s7 3014) ≤ 32764 by omega)) ?_
      rintro _ _ ⟨s13, c14, rfl, rfl, hS13, hC14, f15, g16, k17⟩
      show tt Zi d 180 (40, [some (.inr (.inl 30)), some (.inl a1), some (.inl a2), some (.inl a3), some (.inl a4), some (.inl a5)], [], n, D, s13, p, c14) _
      have k17 : (s13 3014) = (s7 3014) + 4 := k17
      have b18 : 0 ≤ (s13 3014) ∧ (s13 3014) ≤ 32768 := hS13 3014
      refine tt_k 2 (S' := (42, [some (.inr (.inl 30)), some (.inl a1), some (.inl a2), some (.inl a3), some (.inl a4), some (.inl a5)], [.inl a3, .inr (.inl 30)], n, D, s13, p, c14)) rfl ?_
      refine tt_cl (by omega) rfl (k_type (Zi := Zi) (D := D) (s := s13) (p := p) (c := c14) (by omega) hS13 hC14 a3 (by omega) (show (s13 3014) ≤ 32764 by omega)) ?_
      rintro _ _ ⟨s19, c20, rfl, rfl, hS19, hC20, f21, g22, k23⟩
      show tt Zi d 180 (45, [some (.inr (.inl 30)), some (.inl a1), some (.inl a2), some (.inl a3), some (.inl a4), some (.inl a5)], [], n, D, s19, p, c20) _
      have k23 : (s19 3014) = (s13 3014) + 4 := k23
      have b24 : 0 ≤ (s19 3014) ∧ (s19 3014) ≤ 32768 := hS19 3014
      refine tt_k 2 (S' := (48, [some (.inr (.inl 30)), some (.inl a1), some (.inl a2), some (.inl a3), some (.inl a4), some (.inl a5)], [.inl a4, .inr (.inl 30)], n, D, s19, p, c20)) rfl ?_
      refine tt_cl (by omega) rfl (k_type (Zi := Zi) (D := D) (s := s19) (p := p) (c := c20) (by omega) hS19 hC20 a4 (by omega) (show (s19 3014) ≤ 32764 by omega)) ?_
      rintro _ _ ⟨s25, c26, rfl, rfl, hS25, hC26, f27, g28, k29⟩
      show tt Zi d 180 (51, [some (.inr (.inl 30)), some (.inl a1), some (.inl a2), some (.inl a3), some (.inl a4), some (.inl a5)], [], n, D, s25, p, c26) _
      have k29 : (s25 3014) = (s19 3014) + 4 := k29
      have b30 : 0 ≤ (s25 3014) ∧ (s25 3014) ≤ 32768 := hS25 3014
      refine tt_k 2 (S' := (54, [some (.inr (.inl 30)), some (.inl a1), some (.inl a2), some (.inl a3), some (.inl a4), some (.inl a5)], [.inl a5, .inr (.inl 30)], n, D, s25, p, c26)) rfl ?_
      refine tt_cl (by omega) rfl (k_type (Zi := Zi) (D := D) (s := s25) (p := p) (c := c26) (by omega) hS25 hC26 a5 (by omega) (show (s25 3014) ≤ 32764 by omega)) ?_
      rintro _ _ ⟨s31, c32, rfl, rfl, hS31, hC32, f33, g34, k35⟩
      show tt Zi d 180 (57, [some (.inr (.inl 30)), some (.inl a1), some (.inl a2), some (.inl a3), some (.inl a4), some (.inl a5)], [], n, D, s31, p, c32) _
      have k35 : (s31 3014) = (s25 3014) + 4 := k35
      have b36 : 0 ≤ (s31 3014) ∧ (s31 3014) ≤ 32768 := hS31 3014
      refine tt_k 2 (S' := (61, [some (.inr (.inl 30)), some (.inl a1), some (.inl a2), some (.inl a3), some (.inl a4), some (.inl a5)], [.inl (s31 3014)], n, D, s31, p, c32)) rfl ?_
      exact tt_rti rfl rfl ⟨s31, c32, (s31 3014), rfl, rfl, hS31, hC32, (fr_tr (fr_tr (fr_tr (fr_tr (fr_tr (fr_us (by decide) fr_rf) f9 (by decide)) f15 (by decide)) f21 (by decide)) f27 (by decide)) f33 (by decide)), (frc_tr (frc_tr (frc_tr (frc_tr (frc_tr frc_rf g10 (by decide)) g16 (by decide)) g22 (by decide)) g28 (by decide)) g34 (by decide)), by omega⟩
    · show tt Zi d 180 (28, [some (.inr (.inl 30)), some (.inl a1), some (.inl a2), some (.inl a3), some (.inl a4), some (.inl a5)], [], n, D, (us s 3000 j2), p, c) _
      refine tt_k 1 (S' := (29, [some (.inr (.inl 30)), some (.inl a1), some (.inl a2), some (.inl a3), some (.inl a4), some (.inl a5)], [.inl 0], n, D, (us s 3000 j2), p, c)) rfl ?_
      exact tt_rti rfl rfl ⟨(us s 3000 j2), c, 0, rfl, rfl, (bS_us hS (show 0 ≤ j2 ∧ j2 ≤ 2 by omega)), hC, (fr_us (by decide) fr_rf), frc_rf, by omega⟩
  refine tb_le (x := ((s 3014) + 20)) (y := 32768) rfl rfl (by omega) (fun h37 => ?_) (fun h37 => ?_)
  · show tt Zi d 180 (17, [some (.inr (.inl 30)), some (.inl a1), some (.inl a2), some (.inl a3), some (.inl a4), some (.inl a5)], [.inr (.inl 30)], n, D, s, p, c) _
    refine tt_k 1 (S' := (18, [some (.inr (.inl 30)), some (.inl a1), some (.inl a2), some (.inl a3), some (.inl a4), some (.inl a5)], [.inl 0, .inr (.inl 30)], n, D, s, p, c)) rfl ?_
    exact K3 0  (by omega) (Or.inl ⟨h37, rfl⟩)
  · show tt Zi d 180 (13, [some (.inr (.inl 30)), some (.inl a1), some (.inl a2), some (.inl a3), some (.inl a4), some (.inl a5)], [.inr (.inl 30)], n, D, s, p, c) _
    refine tt_k 2 (S' := (18, [some (.inr (.inl 30)), some (.inl a1), some (.inl a2), some (.inl a3), some (.inl a4), some (.inl a5)], [.inl 1, .inr (.inl 30)], n, D, s, p, c)) rfl ?_
    exact K3 1  (by omega) (Or.inr (⟨h37, rfl⟩))
set_option maxRecDepth 100000 in
set_option maxHeartbeats 4000000 in
theorem k_turn_L29 {Zi : Nat → Option (Nat × (Nat → Int))} {d n : Nat} {D : Nat → Nat × Nat} {s : Nat → Int} {p : Nat → Nat} {c : Nat → Nat → Int}  {Q : mi_Rs → mi_H → Prop} (hd : 0 ≤ d) (hS : bS s) (hC : bC D c) (hq0 : s 3016 ≤ 32768)
  (hK : ∀ (k : Int) (c0 : Nat → Nat → Int) (b_k : 0 ≤ k ∧ k ≤ 32768) (hC0 : bC D c0) (hG0 : frc c c0 [34]), s 3016 ≤ k → tt Zi d 184 (55, [some (.inr (.inl 30)), some (.inl k)], [], n, D, s, p, c0) Q) :
  ∀ (m : Nat) (k : Int) (c0 : Nat → Nat → Int) (b_k : 0 ≤ k ∧ k ≤ 32768) (hC0 : bC D c0) (hG0 : frc c c0 [34]), (s 3016 - k).toNat < m → tt Zi d 184 (29, [some (.inr (.inl 30)), some (.inl k)], [], n, D, s, p, c0) Q := by
  intro m
  induction m with
  | zero => intro k c0 b_k hC0 hG0 hm; exact absurd hm (by omega)
  | succ m ih =>
    intro k c0 b_k hC0 hG0 hm
    refine tt_k 3 (S' := (34, [some (.inr (.inl 30)), some (.inl k)], [.inl (s 3016), .inl k], n, D, s, p, c0)) rfl ?_
    have b1 : 0 ≤ (s 3016) ∧ (s 3016) ≤ 65536 := hS 3016
    refine tb_ge (x := k) (y := (s 3016)) rfl rfl (by omega) (fun h2 => ?_) (fun h2 => ?_)
    · show tt Zi d 184 (55, [some (.inr (.inl 30)), some (.inl k)], [], n, D, s, p, c0) _
      exact hK k c0 (by omega) hC0 hG0 (by omega)
    · show tt Zi d 184 (37, [some (.inr (.inl 30)), some (.inl k)], [], n, D, s, p, c0) _
      refine tt_k 6 (S' := (47, [some (.inr (.inl 30)), some (.inl k)], [.inl k, .inr (.inl 35), .inl k, .inr (.inl 34)], n, D, s, p, c0)) rfl ?_
      refine tt_bldv (i := k) (v := (c0 35 (k).toNat)) rfl rfl (by omega) rfl ?_
      show tt Zi d 184 (48, [some (.inr (.inl 30)), some (.inl k)], [.inl (c0 35 (k).toNat), .inl k, .inr (.inl 34)], n, D, s, p, c0) _
      have b3 : -128 ≤ (c0 35 (k).toNat) ∧ (c0 35 (k).toNat) ≤ 127 := hC0 35 _
      refine tt_bst (i := k) (x := (c0 35 (k).toNat)) rfl rfl (by omega) ?_
      show tt Zi d 184 (49, [some (.inr (.inl 30)), some (.inl k)], [], n, D, s, p, (uc c0 34 (ua (c0 34) (k).toNat (mi_nb (c0 35 (k).toNat))))) _
      refine tt_k 2 (S' := (29, [some (.inr (.inl 30)), some (.inl (k + 1))], [], n, D, s, p, (uc c0 34 (ua (c0 34) (k).toNat (mi_nb (c0 35 (k).toNat)))))) rfl ?_
      exact ih (k + 1) (uc c0 34 (ua (c0 34) (k).toNat (mi_nb (c0 35 (k).toNat)))) (by omega) (bC_st hC0 (mi_nb_bd _)) (frc_uc (by decide) hG0) (show (s 3016 - (k + 1)).toNat < m by omega)
set_option maxRecDepth 100000 in
set_option maxHeartbeats 4000000 in
theorem k_turn {Zi : Nat → Option (Nat × (Nat → Int))} {d n : Nat} {D : Nat → Nat × Nat} {s : Nat → Int} {p : Nat → Nat} {c : Nat → Nat → Int} (hd : 0 ≤ d) (hS : bS s) (hC : bC D c)  : tt Zi d 184 (0, [some (.inr (.inl 30)), none], [], n, D, s, p, c) (fun R H => ∃ (s' : Nat → Int) (c' : Nat → Nat → Int) (r : Int), R = .inl (some (.inl r)) ∧ H = (n, D, s', p, c') ∧ bS s' ∧ bC D c' ∧ fr s s' [3000, 3014] ∧ frc c c' [34] ∧ (0 ≤ r ∧ r ≤ 32768)) := by
  refine tt_k 4 (S' := (7, [some (.inr (.inl 30)), none], [.inl 32768, .inl (s 3016), .inr (.inl 30)], n, D, s, p, c)) rfl ?_
  have b1 : 0 ≤ (s 3016) ∧ (s 3016) ≤ 65536 := hS 3016
  have K3 : ∀ (j2 : Int) , (0 ≤ j2 ∧ j2 ≤ 1) → (((s 3016) ≤ 32768 ∧ j2 = 0) ∨ (32768 < (s 3016) ∧ j2 = 1)) → tt Zi d 184 (15, [some (.inr (.inl 30)), none], [.inl j2, .inr (.inl 30)], n, D, s, p, c) (fun R H => ∃ (s' : Nat → Int) (c' : Nat → Nat → Int) (r : Int), R = .inl (some (.inl r)) ∧ H = (n, D, s', p, c') ∧ bS s' ∧ bC D c' ∧ fr s s' [3000, 3014] ∧ frc c c' [34] ∧ (0 ≤ r ∧ r ≤ 32768)) := by
    intro j2 b5 hj4
    refine tt_k 3 (S' := (22, [some (.inr (.inl 30)), none], [.inl j2], n, D, (us s 3000 j2), p, c)) rfl ?_
    refine tz_le (x := j2) rfl rfl (by omega) (fun h6 => ?_) (fun h6 => ?_)
    · show tt Zi d 184 (27, [some (.inr (.inl 30)), none], [], n, D, (us s 3000 j2), p, c) _
      refine tt_k 2 (S' := (29, [some (.inr (.inl 30)), some (.inl 0)], [], n, D, (us s 3000 j2), p, c)) rfl ?_
      refine k_turn_L29 (Zi := Zi) (D := D) (s := (us s 3000 j2)) (p := p) (c := c) hd (bS_us hS (show 0 ≤ j2 ∧ j2 ≤ 2 by omega)) hC   (show (s 3016) ≤ 32768 by omega) ?_ _ 0 c (by omega) hC frc_rf (Nat.lt_succ_self _)
      intro x7 c8 b9 hC8 g10 hx11
      show tt Zi d 184 (55, [some (.inr (.inl 30)), some (.inl x7)], [], n, D, (us s 3000 j2), p, c8) _
      refine tt_k 6 (S' := (67, [some (.inr (.inl 30)), some (.inl x7)], [.inl (s 3016)], n, D, (us (us s 3000 j2) 3014 (s 3016)), p, c8)) rfl ?_
      exact tt_rti rfl rfl ⟨(us (us s 3000 j2) 3014 (s 3016)), c8, (s 3016), rfl, rfl, (bS_us (bS_us hS (show 0 ≤ j2 ∧ j2 ≤ 2 by omega)) (show 0 ≤ (s 3016) ∧ (s 3016) ≤ 32768 by omega)), hC8, (fr_us (by decide) (fr_us (by decide) fr_rf)), (frc_tr frc_rf g10 (by decide)), by omega⟩
    · show tt Zi d 184 (25, [some (.inr (.inl 30)), none], [], n, D, (us s 3000 j2), p, c) _
      refine tt_k 1 (S' := (26, [some (.inr (.inl 30)), none], [.inl 0], n, D, (us s 3000 j2), p, c)) rfl ?_
      exact tt_rti rfl rfl ⟨(us s 3000 j2), c, 0, rfl, rfl, (bS_us hS (show 0 ≤ j2 ∧ j2 ≤ 2 by omega)), hC, (fr_us (by decide) fr_rf), frc_rf, by omega⟩
  refine tb_le (x := (s 3016)) (y := 32768) rfl rfl (by omega) (fun h12 => ?_) (fun h12 => ?_)
  · show tt Zi d 184 (14, [some (.inr (.inl 30)), none], [.inr (.inl 30)], n, D, s, p, c) _
    refine tt_k 1 (S' := (15, [some (.inr (.inl 30)), none], [.inl 0, .inr (.inl 30)], n, D, s, p, c)) rfl ?_
    exact K3 0  (by omega) (Or.inl ⟨h12, rfl⟩)
  · show tt Zi d 184 (10, [some (.inr (.inl 30)), none], [.inr (.inl 30)], n, D, s, p, c) _
    refine tt_k 2 (S' := (15, [some (.inr (.inl 30)), none], [.inl 1, .inr (.inl 30)], n, D, s, p, c)) rfl ?_
    exact K3 1  (by omega) (Or.inr (⟨h12, rfl⟩))
set_option maxRecDepth 100000 in
set_option maxHeartbeats 4000000 in
theorem k_canvas_L82 {Zi : Nat → Option (Nat × (Nat → Int))} {d n : Nat} {D : Nat → Nat × Nat} {s : Nat → Int} {p : Nat → Nat} {c : Nat → Nat → Int} {o_1 : Option mi_V} {o_2 : Option mi_V} {o_3 : Option mi_V} {o_4 : Option mi_V} {Q : mi_Rs → mi_H → Prop} (hd : 1 ≤ d) (hS : bS s) (hC : bC D c) 
  (hK : ∀ (k : Int) (c0 : Nat → Nat → Int) (b_k : 0 ≤ k ∧ k ≤ 12288) (hC0 : bC D c0) (hG0 : frc c c0 [31]), k = 12288 → tt Zi d 135 (106, [some (.inr (.inl 30)), o_1, o_2, o_3, o_4, some (.inl k)], [], n, D, s, p, c0) Q) :
  ∀ (m : Nat) (k : Int) (c0 : Nat → Nat → Int) (b_k : 0 ≤ k ∧ k ≤ 12288) (hC0 : bC D c0) (hG0 : frc c c0 [31]), (12288 - k).toNat < m → tt Zi d 135 (82, [some (.inr (.inl 30)), o_1, o_2, o_3, o_4, some (.inl k)], [], n, D, s, p, c0) Q := by
  intro m
  induction m with
  | zero => intro k c0 b_k hC0 hG0 hm; exact absurd hm (by omega)
  | succ m ih =>
    intro k c0 b_k hC0 hG0 hm
    refine tt_k 4 (S' := (89, [some (.inr (.inl 30)), o_1, o_2, o_3, o_4, some (.inl k)], [.inl 12288, .inl k], n, D, s, p, c0)) rfl ?_
    refine tb_ge (x := k) (y := 12288) rfl rfl (by omega) (fun h1 => ?_) (fun h1 => ?_)
    · show tt Zi d 135 (106, [some (.inr (.inl 30)), o_1, o_2, o_3, o_4, some (.inl k)], [], n, D, s, p, c0) _
      exact hK k c0 (by omega) hC0 hG0 (by omega)
    · show tt Zi d 135 (92, [some (.inr (.inl 30)), o_1, o_2, o_3, o_4, some (.inl k)], [], n, D, s, p, c0) _
      refine tt_k 4 (S' := (99, [some (.inr (.inl 30)), o_1, o_2, o_3, o_4, some (.inl k)], [.inl 0, .inl k, .inr (.inl 31)], n, D, s, p, c0)) rfl ?_
      refine tt_ist (i := k) (x := 0) rfl rfl (by omega) ?_
      show tt Zi d 135 (100, [some (.inr (.inl 30)), o_1, o_2, o_3, o_4, some (.inl k)], [], n, D, s, p, (uc c0 31 (ua (c0 31) (k).toNat 0))) _
      refine tt_k 2 (S' := (82, [some (.inr (.inl 30)), o_1, o_2, o_3, o_4, some (.inl (k + 1))], [], n, D, s, p, (uc c0 31 (ua (c0 31) (k).toNat 0)))) rfl ?_
      exact ih (k + 1) (uc c0 31 (ua (c0 31) (k).toNat 0)) (by omega) (bC_st hC0 (show 0 ≤ 0 ∧ 0 ≤ 65535 by omega)) (frc_uc (by decide) hG0) (show (12288 - (k + 1)).toNat < m by omega)

set_option maxRecDepth 100000 in
set_option maxHeartbeats 4000000 in
theorem k_canvas_L109 {Zi : Nat → Option (Nat × (Nat → Int))} {d n : Nat} {D : Nat → Nat × Nat} {s : Nat → Int} {p : Nat → Nat} {c : Nat → Nat → Int} {o_1 : Option mi_V} {o_2 : Option mi_V} {o_3 : Option mi_V} {o_4 : Option mi_V} {Q : mi_Rs → mi_H → Prop} (hd : 1 ≤ d) (hS : bS s) (hC : bC D c) 
  (hK : ∀ (k : Int) (c0 : Nat → Nat → Int) (b_k : 0 ≤ k ∧ k ≤ 5) (hC0 : bC D c0) (hG0 : frc c c0 [32]), k = 5 → tt Zi d 135 (129, [some (.inr (.inl 30)), o_1, o_2, o_3, o_4, some (.inl k)], [], n, D, s, p, c0) Q) :
  ∀ (m : Nat) (k : Int) (c0 : Nat → Nat → Int) (b_k : 0 ≤ k ∧ k ≤ 5) (hC0 : bC D c0) (hG0 : frc c c0 [32]), (5 - k).toNat < m → tt Zi d 135 (109, [some (.inr (.inl 30)), o_1, o_2, o_3, o_4, some (.inl k)], [], n, D, s, p, c0) Q := by
  intro m
  induction m with
  | zero => intro k c0 b_k hC0 hG0 hm; exact absurd hm (by omega)
  | succ m ih =>
    intro k c0 b_k hC0 hG0 hm
    refine tt_k 2 (S' := (112, [some (.inr (.inl 30)), o_1, o_2, o_3, o_4, some (.inl k)], [.inl 5, .inl k], n, D, s, p, c0)) rfl ?_
    refine tb_ge (x := k) (y := 5) rfl rfl (by omega) (fun h1 => ?_) (fun h1 => ?_)
    · show tt Zi d 135 (129, [some (.inr (.inl 30)), o_1, o_2, o_3, o_4, some (.inl k)], [], n, D, s, p, c0) _
      exact hK k c0 (by omega) hC0 hG0 (by omega)
    · show tt Zi d 135 (115, [some (.inr (.inl 30)), o_1, o_2, o_3, o_4, some (.inl k)], [], n, D, s, p, c0) _
      refine tt_k 4 (S' := (122, [some (.inr (.inl 30)), o_1, o_2, o_3, o_4, some (.inl k)], [.inl 0, .inl k, .inr (.inl 32)], n, D, s, p, c0)) rfl ?_
      refine tt_ist (i := k) (x := 0) rfl rfl (by omega) ?_
      show tt Zi d 135 (123, [some (.inr (.inl 30)), o_1, o_2, o_3, o_4, some (.inl k)], [], n, D, s, p, (uc c0 32 (ua (c0 32) (k).toNat 0))) _
      refine tt_k 2 (S' := (109, [some (.inr (.inl 30)), o_1, o_2, o_3, o_4, some (.inl (k + 1))], [], n, D, s, p, (uc c0 32 (ua (c0 32) (k).toNat 0)))) rfl ?_
      exact ih (k + 1) (uc c0 32 (ua (c0 32) (k).toNat 0)) (by omega) (bC_st hC0 (show 0 ≤ 0 ∧ 0 ≤ 65535 by omega)) (frc_uc (by decide) hG0) (show (5 - (k + 1)).toNat < m by omega)
set_option maxRecDepth 100000 in
set_option maxHeartbeats 4000000 in
theorem k_canvas {Zi : Nat → Option (Nat × (Nat → Int))} {d n : Nat} {D : Nat → Nat × Nat} {s : Nat → Int} {p : Nat → Nat} {c : Nat → Nat → Int} (hd : 1 ≤ d) (hS : bS s) (hC : bC D c) (wide : Int) (high : Int) (many : Int) (bits : Int) (b_wide : -2147483648 ≤ wide ∧ wide ≤ 2147483647) (b_high : -2147483648 ≤ high ∧ high ≤ 2147483647) (b_many : -2147483648 ≤ many ∧ many ≤ 2147483647) (b_bits : -2147483648 ≤ bits ∧ bits ≤ 2147483647) : tt Zi d 135 (0, [some (.inr (.inl 30)), some (.inl wide), some (.inl high), some (.inl many), some (.inl bits), none], [], n, D, s, p, c) (fun R H => ∃ (s' : Nat → Int) (c' : Nat → Nat → Int), R = .inl none ∧ H = (n, D, s', p, c') ∧ bS s' ∧ bC D c' ∧ fr s s' [3000, 3001, 3002, 3003, 3004] ∧ frc c c' [31, 32] ∧ (s' 3000 = if (1 ≤ wide ∧ wide ≤ 64) ∧ (1 ≤ high ∧ high ≤ 64) ∧ (many = 1 ∨ many = 3) ∧ (2 ≤ bits ∧ bits ≤ 16) then 0 else 1)) := by
  refine tt_k 4 (S' := (5, [some (.inr (.inl 30)), some (.inl wide), some (.inl high), some (.inl many), some (.inl bits), none], [.inl 64, .inl 1, .inl wide, .inr (.inl 30)], n, D, s, p, c)) rfl ?_
  refine tt_cl (by omega) rfl (k_isIn (Zi := Zi) (D := D) (s := s) (p := p) (c := c) (by omega) hS hC wide 1 64 (by omega) (by omega) (by omega)) ?_
  rintro _ _ ⟨r1, rfl, rfl, b2, k3⟩
  show tt Zi d 135 (8, [some (.inr (.inl 30)), some (.inl wide), some (.inl high), some (.inl many), some (.inl bits), none], [.inl r1, .inr (.inl 30)], n, D, s, p, c) _
  have k3 : r1 = if 1 ≤ wide ∧ wide ≤ 64 then (1 : Int) else 0 := k3
  subst k3
  show tt Zi d 135 (8, [some (.inr (.inl 30)), some (.inl wide), some (.inl high), some (.inl many), some (.inl bits), none], [.inl (if 1 ≤ wide ∧ wide ≤ 64 then (1 : Int) else 0), .inr (.inl 30)], n, D, s, p, c) _
  have K5 : ∀ (j4 : Int) , (0 ≤ j4 ∧ j4 ≤ 1) → (((if 1 ≤ wide ∧ wide ≤ 64 then (1 : Int) else 0) = 0 ∧ j4 = 1) ∨ ((if 1 ≤ wide ∧ wide ≤ 64 then (1 : Int) else 0) ≠ 0 ∧ (if 1 ≤ high ∧ high ≤ 64 then (1 : Int) else 0) = 0 ∧ j4 = 1) ∨ ((if 1 ≤ wide ∧ wide ≤ 64 then (1 : Int) else 0) ≠ 0 ∧ (if 1 ≤ high ∧ high ≤ 64 then (1 : Int) else 0) ≠ 0 ∧ many = 1 ∧ (if 2 ≤ bits ∧ bits ≤ 16 then (1 : Int) else 0) = 0 ∧ j4 = 1) ∨ ((if 1 ≤ wide ∧ wide ≤ 64 then (1 : Int) else 0) ≠ 0 ∧ (if 1 ≤ high ∧ high ≤ 64 then (1 : Int) else 0) ≠ 0 ∧ many = 1 ∧ (if 2 ≤ bits ∧ bits ≤ 16 then (1 : Int) else 0) ≠ 0 ∧ j4 = 0) ∨ ((if 1 ≤ wide ∧ wide ≤ 64 then (1 : Int) else 0) ≠ 0 ∧ (if 1 ≤ high ∧ high ≤ 64 then (1 : Int) else 0) ≠ 0 ∧ many ≠ 1 ∧ many ≠ 3 ∧ j4 = 1) ∨ ((if 1 ≤ wide ∧ wide ≤ 64 then (1 : Int) else 0) ≠ 0 ∧ (if 1 ≤ high ∧ high ≤ 64 then (1 : Int) else 0) ≠ 0 ∧ many ≠ 1 ∧ many = 3 ∧ (if 2 ≤ bits ∧ bits ≤ 16 then (1 : Int) else 0) = 0 ∧ j4 = 1) ∨ ((if 1 ≤ wide ∧ wide ≤ 64 then (1 : Int) else 0) ≠ 0 ∧ (if 1 ≤ high ∧ high ≤ 64 then (1 : Int) else 0) ≠ 0 ∧ many ≠ 1 ∧ many = 3 ∧ (if 2 ≤ bits ∧ bits ≤ 16 then (1 : Int) else 0) ≠ 0 ∧ j4 = 0)) → tt Zi d 135 (47, [some (.inr (.inl 30)), some (.inl wide), some (.inl high), some (.inl many), some (.inl bits), none], [.inl j4, .inr (.inl 30)], n, D, s, p, c) (fun R H => ∃ (s' : Nat → Int) (c' : Nat → Nat → Int), R = .inl none ∧ H = (n, D, s', p, c') ∧ bS s' ∧ bC D c' ∧ fr s s' [3000, 3001, 3002, 3003, 3004] ∧ frc c c' [31, 32] ∧ (s' 3000 = if (1 ≤ wide ∧ wide ≤ 64) ∧ (1 ≤ high ∧ high ≤ 64) ∧ (many = 1 ∨ many = 3) ∧ (2 ≤ bits ∧ bits ≤ 16) then 0 else 1)) := by
    intro j4 b7 hj6
    refine tt_k 3 (S' := (54, [some (.inr (.inl 30)), some (.inl wide), some (.inl high), some (.inl many), some (.inl bits), none], [.inl j4], n, D, (us s 3000 j4), p, c)) rfl ?_
    refine tz_le (x := j4) rfl rfl (by omega) (fun h8 => ?_) (fun h8 => ?_)
    · show tt Zi d 135 (58, [some (.inr (.inl 30)), some (.inl wide), some (.inl high), some (.inl many), some (.inl bits), none], [], n, D, (us s 3000 j4), p, c) _
      refine tt_k 14 (S' := (82, [some (.inr (.inl 30)), some (.inl wide), some (.inl high), some (.inl many), some (.inl bits), some (.inl 0)], [], n, D, (us (us (us (us (us s 3000 j4) 3001 wide) 3002 high) 3003 many) 3004 bits), p, c)) rfl ?_
      refine k_canvas_L82 (Zi := Zi) (D := D) (s := (us (us (us (us (us s 3000 j4) 3001 wide) 3002 high) 3003 many) 3004 bits)) (p := p) (c := c) hd (bS_us (bS_us (bS_us (bS_us (bS_us hS (show 0 ≤ j4 ∧ j4 ≤ 2 by omega)) (show 1 ≤ wide ∧ wide ≤ 64 by omega)) (show 1 ≤ high ∧ high ≤ 64 by omega)) (show 1 ≤ many ∧ many ≤ 3 by omega)) (show 2 ≤ bits ∧ bits ≤ 16 by omega)) hC    ?_ _ 0 c (by omega) hC frc_rf (Nat.lt_succ_self _)
      intro x9 c10 b11 hC10 g12 hx13
      show tt Zi d 135 (106, [some (.inr (.inl 30)), some (.inl wide), some (.inl high), some (.inl many), some (.inl bits), some (.inl x9)], [], n, D, (us (us (us (us (us s 3000 j4) 3001 wide) 3002 high) 3003 many) 3004 bits), p, c10) _
      refine tt_k 2 (S' := (109, [some (.inr (.inl 30)), some (.inl wide), some (.inl high), some (.inl many), some (.inl bits), some (.inl 0)], [], n, D, (us (us (us (us (us s 3000 j4) 3001 wide) 3002 high) 3003 many) 3004 bits), p, c10)) rfl ?_
      refine k_canvas_L109 (Zi := Zi) (D := D) (s := (us (us (us (us (us s 3000 j4) 3001 wide) 3002 high) 3003 many) 3004 bits)) (p := p) (c := c10) hd (bS_us (bS_us (bS_us (bS_us (bS_us hS (show 0 ≤ j4 ∧ j4 ≤ 2 by omega)) (show 1 ≤ wide ∧ wide ≤ 64 by omega)) (show 1 ≤ high ∧ high ≤ 64 by omega)) (show 1 ≤ many ∧ many ≤ 3 by omega)) (show 2 ≤ bits ∧ bits ≤ 16 by omega)) hC10    ?_ _ 0 c10 (by omega) hC10 frc_rf (Nat.lt_succ_self _)
      intro x14 c15 b16 hC15 g17 hx18
      show tt Zi d 135 (129, [some (.inr (.inl 30)), some (.inl wide), some (.inl high), some (.inl many), some (.inl bits), some (.inl x14)], [], n, D, (us (us (us (us (us s 3000 j4) 3001 wide) 3002 high) 3003 many) 3004 bits), p, c15) _
      exact tt_rtv rfl rfl ⟨(us (us (us (us (us s 3000 j4) 3001 wide) 3002 high) 3003 many) 3004 bits), c15, rfl, rfl, (bS_us (bS_us (bS_us (bS_us (bS_us hS (show 0 ≤ j4 ∧ j4 ≤ 2 by omega)) (show 1 ≤ wide ∧ wide ≤ 64 by omega)) (show 1 ≤ high ∧ high ≤ 64 by omega)) (show 1 ≤ many ∧ many ≤ 3 by omega)) (show 2 ≤ bits ∧ bits ≤ 16 by omega)), hC15, (fr_us (by decide) (fr_us (by decide) (fr_us (by decide) (fr_us (by decide) (fr_us (by decide) fr_rf))))), (frc_tr (frc_tr frc_rf g12 (by decide)) g17 (by decide)), by show j4 = if (1 ≤ wide ∧ wide ≤ 64) ∧ (1 ≤ high ∧ high ≤ 64) ∧ (many = 1 ∨ many = 3) ∧ (2 ≤ bits ∧ bits ≤ 16) then 0 else 1; first | omega | (split <;> omega) | (split <;> (try split) <;> omega)⟩
    · show tt Zi d 135 (57, [some (.inr (.inl 30)), some (.inl wide), some (.inl high), some (.inl many), some (.inl bits), none], [], n, D, (us s 3000 j4), p, c) _
      exact tt_rtv rfl rfl ⟨(us s 3000 j4), c, rfl, rfl, (bS_us hS (show 0 ≤ j4 ∧ j4 ≤ 2 by omega)), hC, (fr_us (by decide) fr_rf), frc_rf, by show j4 = if (1 ≤ wide ∧ wide ≤ 64) ∧ (1 ≤ high ∧ high ≤ 64) ∧ (many = 1 ∨ many = 3) ∧ (2 ≤ bits ∧ bits ≤ 16) then 0 else 1; first | omega | (split <;> omega) | (split <;> (try split) <;> omega)⟩
  refine tz_eq (x := (if 1 ≤ wide ∧ wide ≤ 64 then (1 : Int) else 0)) rfl rfl (by omega) (fun h19 => ?_) (fun h19 => ?_)
  · show tt Zi d 135 (46, [some (.inr (.inl 30)), some (.inl wide), some (.inl high), some (.inl many), some (.inl bits), none], [.inr (.inl 30)], n, D, s, p, c) _
    refine tt_k 1 (S' := (47, [some (.inr (.inl 30)), some (.inl wide), some (.inl high), some (.inl many), some (.inl bits), none], [.inl 1, .inr (.inl 30)], n, D, s, p, c)) rfl ?_
    exact K5 1  (by omega) (Or.inl ⟨h19, rfl⟩)
  · show tt Zi d 135 (11, [some (.inr (.inl 30)), some (.inl wide), some (.inl high), some (.inl many), some (.inl bits), none], [.inr (.inl 30)], n, D, s, p, c) _
    refine tt_k 3 (S' := (15, [some (.inr (.inl 30)), some (.inl wide), some (.inl high), some (.inl many), some (.inl bits), none], [.inl 64, .inl 1, .inl high, .inr (.inl 30)], n, D, s, p, c)) rfl ?_
    refine tt_cl (by omega) rfl (k_isIn (Zi := Zi) (D := D) (s := s) (p := p) (c := c) (by omega) hS hC high 1 64 (by omega) (by omega) (by omega)) ?_
    rintro _ _ ⟨r20, rfl, rfl, b21, k22⟩
    show tt Zi d 135 (18, [some (.inr (.inl 30)), some (.inl wide), some (.inl high), some (.inl many), some (.inl bits), none], [.inl r20, .inr (.inl 30)], n, D, s, p, c) _
    have k22 : r20 = if 1 ≤ high ∧ high ≤ 64 then (1 : Int) else 0 := k22
    subst k22
    show tt Zi d 135 (18, [some (.inr (.inl 30)), some (.inl wide), some (.inl high), some (.inl many), some (.inl bits), none], [.inl (if 1 ≤ high ∧ high ≤ 64 then (1 : Int) else 0), .inr (.inl 30)], n, D, s, p, c) _
    refine tz_eq (x := (if 1 ≤ high ∧ high ≤ 64 then (1 : Int) else 0)) rfl rfl (by omega) (fun h23 => ?_) (fun h23 => ?_)
    · show tt Zi d 135 (46, [some (.inr (.inl 30)), some (.inl wide), some (.inl high), some (.inl many), some (.inl bits), none], [.inr (.inl 30)], n, D, s, p, c) _
      refine tt_k 1 (S' := (47, [some (.inr (.inl 30)), some (.inl wide), some (.inl high), some (.inl many), some (.inl bits), none], [.inl 1, .inr (.inl 30)], n, D, s, p, c)) rfl ?_
      exact K5 1  (by omega) (Or.inr (Or.inl ⟨h19, h23, rfl⟩))
    · show tt Zi d 135 (21, [some (.inr (.inl 30)), some (.inl wide), some (.inl high), some (.inl many), some (.inl bits), none], [.inr (.inl 30)], n, D, s, p, c) _
      refine tt_k 2 (S' := (23, [some (.inr (.inl 30)), some (.inl wide), some (.inl high), some (.inl many), some (.inl bits), none], [.inl 1, .inl many, .inr (.inl 30)], n, D, s, p, c)) rfl ?_
      refine tb_eq (x := many) (y := 1) rfl rfl (by omega) (fun h24 => ?_) (fun h24 => ?_)
      · show tt Zi d 135 (31, [some (.inr (.inl 30)), some (.inl wide), some (.inl high), some (.inl many), some (.inl bits), none], [.inr (.inl 30)], n, D, s, p, c) _
        refine tt_k 3 (S' := (36, [some (.inr (.inl 30)), some (.inl wide), some (.inl high), some (.inl many), some (.inl bits), none], [.inl 16, .inl 2, .inl bits, .inr (.inl 30)], n, D, s, p, c)) rfl ?_
        refine tt_cl (by omega) rfl (k_isIn (Zi := Zi) (D := D) (s := s) (p := p) (c := c) (by omega) hS hC bits 2 16 (by omega) (by omega) (by omega)) ?_
        rintro _ _ ⟨r25, rfl, rfl, b26, k27⟩
        show tt Zi d 135 (39, [some (.inr (.inl 30)), some (.inl wide), some (.inl high), some (.inl many), some (.inl bits), none], [.inl r25, .inr (.inl 30)], n, D, s, p, c) _
        have k27 : r25 = if 2 ≤ bits ∧ bits ≤ 16 then (1 : Int) else 0 := k27
        subst k27
        show tt Zi d 135 (39, [some (.inr (.inl 30)), some (.inl wide), some (.inl high), some (.inl many), some (.inl bits), none], [.inl (if 2 ≤ bits ∧ bits ≤ 16 then (1 : Int) else 0), .inr (.inl 30)], n, D, s, p, c) _
        refine tz_eq (x := (if 2 ≤ bits ∧ bits ≤ 16 then (1 : Int) else 0)) rfl rfl (by omega) (fun h28 => ?_) (fun h28 => ?_)
        · show tt Zi d 135 (46, [some (.inr (.inl 30)), some (.inl wide), some (.inl high), some (.inl many), some (.inl bits), none], [.inr (.inl 30)], n, D, s, p, c) _
          refine tt_k 1 (S' := (47, [some (.inr (.inl 30)), some (.inl wide), some (.inl high), some (.inl many), some (.inl bits), none], [.inl 1, .inr (.inl 30)], n, D, s, p, c)) rfl ?_
          exact K5 1  (by omega) (Or.inr (Or.inr (Or.inl ⟨h19, h23, h24, h28, rfl⟩)))
        · show tt Zi d 135 (42, [some (.inr (.inl 30)), some (.inl wide), some (.inl high), some (.inl many), some (.inl bits), none], [.inr (.inl 30)], n, D, s, p, c) _
          refine tt_k 2 (S' := (47, [some (.inr (.inl 30)), some (.inl wide), some (.inl high), some (.inl many), some (.inl bits), none], [.inl 0, .inr (.inl 30)], n, D, s, p, c)) rfl ?_
          exact K5 0  (by omega) (Or.inr (Or.inr (Or.inr (Or.inl ⟨h19, h23, h24, h28, rfl⟩))))
      · show tt Zi d 135 (26, [some (.inr (.inl 30)), some (.inl wide), some (.inl high), some (.inl many), some (.inl bits), none], [.inr (.inl 30)], n, D, s, p, c) _
        refine tt_k 2 (S' := (28, [some (.inr (.inl 30)), some (.inl wide), some (.inl high), some (.inl many), some (.inl bits), none], [.inl 3, .inl many, .inr (.inl 30)], n, D, s, p, c)) rfl ?_
        refine tb_ne (x := many) (y := 3) rfl rfl (by omega) (fun h29 => ?_) (fun h29 => ?_)
        · show tt Zi d 135 (46, [some (.inr (.inl 30)), some (.inl wide), some (.inl high), some (.inl many), some (.inl bits), none], [.inr (.inl 30)], n, D, s, p, c) _
          refine tt_k 1 (S' := (47, [some (.inr (.inl 30)), some (.inl wide), some (.inl high), some (.inl many), some (.inl bits), none], [.inl 1, .inr (.inl 30)], n, D, s, p, c)) rfl ?_
          exact K5 1  (by omega) (Or.inr (Or.inr (Or.inr (Or.inr (Or.inl ⟨h19, h23, h24, h29, rfl⟩)))))
        · show tt Zi d 135 (31, [some (.inr (.inl 30)), some (.inl wide), some (.inl high), some (.inl many), some (.inl bits), none], [.inr (.inl 30)], n, D, s, p, c) _
          refine tt_k 3 (S' := (36, [some (.inr (.inl 30)), some (.inl wide), some (.inl high), some (.inl many), some (.inl bits), none], [.inl 16, .inl 2, .inl bits, .inr (.inl 30)], n, D, s, p, c)) rfl ?_
          refine tt_cl (by omega) rfl (k_isIn (Zi := Zi) (D := D) (s := s) (p := p) (c := c) (by omega) hS hC bits 2 16 (by omega) (by omega) (by omega)) ?_
          rintro _ _ ⟨r30, rfl, rfl, b31, k32⟩
          show tt Zi d 135 (39, [some (.inr (.inl 30)), some (.inl wide), some (.inl high), some (.inl many), some (.inl bits), none], [.inl r30, .inr (.inl 30)], n, D, s, p, c) _
          have k32 : r30 = if 2 ≤ bits ∧ bits ≤ 16 then (1 : Int) else 0 := k32
          subst k32
          show tt Zi d 135 (39, [some (.inr (.inl 30)), some (.inl wide), some (.inl high), some (.inl many), some (.inl bits), none], [.inl (if 2 ≤ bits ∧ bits ≤ 16 then (1 : Int) else 0), .inr (.inl 30)], n, D, s, p, c) _
          refine tz_eq (x := (if 2 ≤ bits ∧ bits ≤ 16 then (1 : Int) else 0)) rfl rfl (by omega) (fun h33 => ?_) (fun h33 => ?_)
          · show tt Zi d 135 (46, [some (.inr (.inl 30)), some (.inl wide), some (.inl high), some (.inl many), some (.inl bits), none], [.inr (.inl 30)], n, D, s, p, c) _
            refine tt_k 1 (S' := (47, [some (.inr (.inl 30)), some (.inl wide), some (.inl high), some (.inl many), some (.inl bits), none], [.inl 1, .inr (.inl 30)], n, D, s, p, c)) rfl ?_
            exact K5 1  (by omega) (Or.inr (Or.inr (Or.inr (Or.inr (Or.inr (Or.inl ⟨h19, h23, h24, h29, h33, rfl⟩))))))
          · show tt Zi d 135 (42, [some (.inr (.inl 30)), some (.inl wide), some (.inl high), some (.inl many), some (.inl bits), none], [.inr (.inl 30)], n, D, s, p, c) _
            refine tt_k 2 (S' := (47, [some (.inr (.inl 30)), some (.inl wide), some (.inl high), some (.inl many), some (.inl bits), none], [.inl 0, .inr (.inl 30)], n, D, s, p, c)) rfl ?_
            exact K5 0  (by omega) (Or.inr (Or.inr (Or.inr (Or.inr (Or.inr (Or.inr (⟨h19, h23, h24, h29, h33, rfl⟩)))))))
