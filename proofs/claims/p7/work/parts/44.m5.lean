/-! the reference's calls but pack and unpack -/
set_option maxRecDepth 100000 in
set_option maxHeartbeats 4000000 in
theorem k_fault0 {Zi : Nat → Option (Nat × (Nat → Int))} {d n : Nat} {D : Nat → Nat × Nat} {s : Nat → Int} {p : Nat → Nat} {c : Nat → Nat → Int} (hd : 0 ≤ d) (hS : bS s) (hC : bC D c)  : tt Zi d 148 (0, [some (.inr (.inl 30))], [], n, D, s, p, c) (fun R H => ∃ (s' : Nat → Int), R = .inl none ∧ H = (n, D, s', p, c) ∧ bS s' ∧ fr s s' [3050, 3062] ∧ (s' 3050 = 0)) := by
  refine tt_k 7 (S' := (13, [some (.inr (.inl 30))], [], n, D, (us (us s 3062 (s 3050)) 3050 0), p, c)) rfl ?_
  have b1 : 0 ≤ (s 3050) ∧ (s 3050) ≤ 8 := hS 3050
  exact tt_rtv rfl rfl ⟨(us (us s 3062 (s 3050)) 3050 0), rfl, rfl, (bS_us (bS_us hS (show 0 ≤ (s 3050) ∧ (s 3050) ≤ 8 by omega)) (show 0 ≤ 0 ∧ 0 ≤ 8 by omega)), (fr_us (by decide) (fr_us (by decide) fr_rf)), rfl⟩
set_option maxRecDepth 100000 in
set_option maxHeartbeats 4000000 in
theorem k_size {Zi : Nat → Option (Nat × (Nat → Int))} {d n : Nat} {D : Nat → Nat × Nat} {s : Nat → Int} {p : Nat → Nat} {c : Nat → Nat → Int} (hd : 0 ≤ d) (hS : bS s) (hC : bC D c)  : tt Zi d 177 (0, [some (.inr (.inl 30))], [], n, D, s, p, c) (fun R H => ∃ (s' : Nat → Int) (r : Int), R = .inl (some (.inl r)) ∧ H = (n, D, s', p, c) ∧ bS s' ∧ fr s s' [3000] ∧ (0 ≤ r ∧ r ≤ 65536) ∧ (r = s 3016) ∧ (s' 3000 = 0)) := by
  refine tt_k 5 (S' := (9, [some (.inr (.inl 30))], [.inl (s 3016)], n, D, (us s 3000 0), p, c)) rfl ?_
  have b1 : 0 ≤ (s 3016) ∧ (s 3016) ≤ 65536 := hS 3016
  exact tt_rti rfl rfl ⟨(us s 3000 0), (s 3016), rfl, rfl, (bS_us hS (show 0 ≤ 0 ∧ 0 ≤ 2 by omega)), (fr_us (by decide) fr_rf), by omega, rfl, rfl⟩
set_option maxRecDepth 100000 in
set_option maxHeartbeats 4000000 in
theorem k_place {Zi : Nat → Option (Nat × (Nat → Int))} {d n : Nat} {D : Nat → Nat × Nat} {s : Nat → Int} {p : Nat → Nat} {c : Nat → Nat → Int} (hd : 0 ≤ d) (hS : bS s) (hC : bC D c)  : tt Zi d 196 (0, [some (.inr (.inl 30))], [], n, D, s, p, c) (fun R H => ∃ (s' : Nat → Int) (r : Int), R = .inl (some (.inl r)) ∧ H = (n, D, s', p, c) ∧ bS s' ∧ fr s s' [3000] ∧ (-1 ≤ r ∧ r ≤ 32769) ∧ (r = s 3051) ∧ (s' 3000 = 0)) := by
  refine tt_k 5 (S' := (9, [some (.inr (.inl 30))], [.inl (s 3051)], n, D, (us s 3000 0), p, c)) rfl ?_
  have b1 : -1 ≤ (s 3051) ∧ (s 3051) ≤ 32769 := hS 3051
  exact tt_rti rfl rfl ⟨(us s 3000 0), (s 3051), rfl, rfl, (bS_us hS (show 0 ≤ 0 ∧ 0 ≤ 2 by omega)), (fr_us (by decide) fr_rf), by omega, rfl, rfl⟩
set_option maxRecDepth 100000 in
set_option maxHeartbeats 4000000 in
theorem k_end {Zi : Nat → Option (Nat × (Nat → Int))} {d n : Nat} {D : Nat → Nat × Nat} {s : Nat → Int} {p : Nat → Nat} {c : Nat → Nat → Int} (hd : 0 ≤ d) (hS : bS s) (hC : bC D c) (i : Int) (b_i : -2147483648 ≤ i ∧ i ≤ 2147483647) : tt Zi d 181 (0, [some (.inr (.inl 30)), some (.inl i)], [], n, D, s, p, c) (fun R H => ∃ (s' : Nat → Int), R = .inl none ∧ H = (n, D, s', p, c) ∧ bS s' ∧ fr s s' [3000, 3014] ∧ (s' 3000 = if 0 ≤ i ∧ i ≤ s 3014 then 0 else 1) ∧ (s' 3014 = if 0 ≤ i ∧ i ≤ s 3014 then i else s 3014)) := by
  refine tt_k 2 (S' := (2, [some (.inr (.inl 30)), some (.inl i)], [.inl i, .inr (.inl 30)], n, D, s, p, c)) rfl ?_
  have K2 : ∀ (j1 : Int) , (0 ≤ j1 ∧ j1 ≤ 1) → ((i < 0 ∧ j1 = 1) ∨ (0 ≤ i ∧ i ≤ (s 3014) ∧ j1 = 0) ∨ (0 ≤ i ∧ (s 3014) < i ∧ j1 = 1)) → tt Zi d 181 (18, [some (.inr (.inl 30)), some (.inl i)], [.inl j1, .inr (.inl 30)], n, D, s, p, c) (fun R H => ∃ (s' : Nat → Int), R = .inl none ∧ H = (n, D, s', p, c) ∧ bS s' ∧ fr s s' [3000, 3014] ∧ (s' 3000 = if 0 ≤ i ∧ i ≤ s 3014 then 0 else 1) ∧ (s' 3014 = if 0 ≤ i ∧ i ≤ s 3014 then i else s 3014)) := by
    intro j1 b4 hj3
    have b5 : 0 ≤ (s 3014) ∧ (s 3014) ≤ 32768 := hS 3014
    refine tt_k 3 (S' := (25, [some (.inr (.inl 30)), some (.inl i)], [.inl j1], n, D, (us s 3000 j1), p, c)) rfl ?_
    refine tz_ne (x := j1) rfl rfl (by omega) (fun h6 => ?_) (fun h6 => ?_)
    · show tt Zi d 181 (33, [some (.inr (.inl 30)), some (.inl i)], [], n, D, (us s 3000 j1), p, c) _
      exact tt_rtv rfl rfl ⟨(us s 3000 j1), rfl, rfl, (bS_us hS (show 0 ≤ j1 ∧ j1 ≤ 2 by omega)), (fr_us (by decide) fr_rf), by show j1 = if 0 ≤ i ∧ i ≤ s 3014 then 0 else 1; first | omega | (split <;> omega) | (split <;> (try split) <;> omega), by show (s 3014) = if 0 ≤ i ∧ i ≤ s 3014 then i else s 3014; first | omega | (split <;> omega) | (split <;> (try split) <;> omega)⟩
    · show tt Zi d 181 (28, [some (.inr (.inl 30)), some (.inl i)], [], n, D, (us s 3000 j1), p, c) _
      refine tt_k 3 (S' := (33, [some (.inr (.inl 30)), some (.inl i)], [], n, D, (us (us s 3000 j1) 3014 i), p, c)) rfl ?_
      exact tt_rtv rfl rfl ⟨(us (us s 3000 j1) 3014 i), rfl, rfl, (bS_us (bS_us hS (show 0 ≤ j1 ∧ j1 ≤ 2 by omega)) (show 0 ≤ i ∧ i ≤ 32768 by omega)), (fr_us (by decide) (fr_us (by decide) fr_rf)), by show j1 = if 0 ≤ i ∧ i ≤ s 3014 then 0 else 1; first | omega | (split <;> omega) | (split <;> (try split) <;> omega), by show i = if 0 ≤ i ∧ i ≤ s 3014 then i else s 3014; first | omega | (split <;> omega) | (split <;> (try split) <;> omega)⟩
  refine tz_lt (x := i) rfl rfl (by omega) (fun h7 => ?_) (fun h7 => ?_)
  · show tt Zi d 181 (13, [some (.inr (.inl 30)), some (.inl i)], [.inr (.inl 30)], n, D, s, p, c) _
    refine tt_k 2 (S' := (18, [some (.inr (.inl 30)), some (.inl i)], [.inl 1, .inr (.inl 30)], n, D, s, p, c)) rfl ?_
    exact K2 1  (by omega) (Or.inl ⟨h7, rfl⟩)
  · show tt Zi d 181 (5, [some (.inr (.inl 30)), some (.inl i)], [.inr (.inl 30)], n, D, s, p, c) _
    refine tt_k 3 (S' := (10, [some (.inr (.inl 30)), some (.inl i)], [.inl (s 3014), .inl i, .inr (.inl 30)], n, D, s, p, c)) rfl ?_
    have b8 : 0 ≤ (s 3014) ∧ (s 3014) ≤ 32768 := hS 3014
    refine tb_le (x := i) (y := (s 3014)) rfl rfl (by omega) (fun h9 => ?_) (fun h9 => ?_)
    · show tt Zi d 181 (17, [some (.inr (.inl 30)), some (.inl i)], [.inr (.inl 30)], n, D, s, p, c) _
      refine tt_k 1 (S' := (18, [some (.inr (.inl 30)), some (.inl i)], [.inl 0, .inr (.inl 30)], n, D, s, p, c)) rfl ?_
      exact K2 0  (by omega) (Or.inr (Or.inl ⟨h7, h9, rfl⟩))
    · show tt Zi d 181 (13, [some (.inr (.inl 30)), some (.inl i)], [.inr (.inl 30)], n, D, s, p, c) _
      refine tt_k 2 (S' := (18, [some (.inr (.inl 30)), some (.inl i)], [.inl 1, .inr (.inl 30)], n, D, s, p, c)) rfl ?_
      exact K2 1  (by omega) (Or.inr (Or.inr (⟨h7, h9, rfl⟩)))
set_option maxRecDepth 100000 in
set_option maxHeartbeats 4000000 in
theorem k_sample {Zi : Nat → Option (Nat × (Nat → Int))} {d n : Nat} {D : Nat → Nat × Nat} {s : Nat → Int} {p : Nat → Nat} {c : Nat → Nat → Int} (hd : 0 ≤ d) (hS : bS s) (hC : bC D c) (a_ : Int) (x : Int) (y : Int) (b_a_ : -2147483648 ≤ a_ ∧ a_ ≤ 2147483647) (b_x : -2147483648 ≤ x ∧ x ≤ 2147483647) (b_y : -2147483648 ≤ y ∧ y ≤ 2147483647) : tt Zi d 198 (0, [some (.inr (.inl 30)), some (.inl a_), some (.inl x), some (.inl y)], [], n, D, s, p, c) (fun R H => ∃ (s' : Nat → Int) (r : Int), R = .inl (some (.inl r)) ∧ H = (n, D, s', p, c) ∧ bS s' ∧ fr s s' [3000] ∧ (0 ≤ r ∧ r ≤ 65535)) := by
  refine tt_k 3 (S' := (5, [some (.inr (.inl 30)), some (.inl a_), some (.inl x), some (.inl y)], [.inl (s 3007), .inr (.inl 30)], n, D, s, p, c)) rfl ?_
  have b1 : 0 ≤ (s 3007) ∧ (s 3007) ≤ 1 := hS 3007
  have K3 : ∀ (j2 : Int) , (0 ≤ j2 ∧ j2 ≤ 2) → (((s 3007) ≠ 0 ∧ a_ < 0 ∧ j2 = 2) ∨ ((s 3007) ≠ 0 ∧ 0 ≤ a_ ∧ (s 3010) ≤ a_ ∧ j2 = 2) ∨ ((s 3007) ≠ 0 ∧ 0 ≤ a_ ∧ a_ < (s 3010) ∧ x < 0 ∧ j2 = 2) ∨ ((s 3007) ≠ 0 ∧ 0 ≤ a_ ∧ a_ < (s 3010) ∧ 0 ≤ x ∧ (s 3008) ≤ x ∧ j2 = 2) ∨ ((s 3007) ≠ 0 ∧ 0 ≤ a_ ∧ a_ < (s 3010) ∧ 0 ≤ x ∧ x < (s 3008) ∧ y < 0 ∧ j2 = 2) ∨ ((s 3007) ≠ 0 ∧ 0 ≤ a_ ∧ a_ < (s 3010) ∧ 0 ≤ x ∧ x < (s 3008) ∧ 0 ≤ y ∧ (s 3009) ≤ y ∧ j2 = 2) ∨ ((s 3007) ≠ 0 ∧ 0 ≤ a_ ∧ a_ < (s 3010) ∧ 0 ≤ x ∧ x < (s 3008) ∧ 0 ≤ y ∧ y < (s 3009) ∧ j2 = 0) ∨ ((s 3007) = 0 ∧ j2 = 1)) → tt Zi d 198 (53, [some (.inr (.inl 30)), some (.inl a_), some (.inl x), some (.inl y)], [.inl j2, .inr (.inl 30)], n, D, s, p, c) (fun R H => ∃ (s' : Nat → Int) (r : Int), R = .inl (some (.inl r)) ∧ H = (n, D, s', p, c) ∧ bS s' ∧ fr s s' [3000] ∧ (0 ≤ r ∧ r ≤ 65535)) := by
    intro j2 b5 hj4
    have b6 : 0 ≤ (s 3010) ∧ (s 3010) ≤ 3 := hS 3010
    have b7 : 0 ≤ (s 3008) ∧ (s 3008) ≤ 64 := hS 3008
    have b8 : 0 ≤ (s 3009) ∧ (s 3009) ≤ 64 := hS 3009
    refine tt_k 3 (S' := (60, [some (.inr (.inl 30)), some (.inl a_), some (.inl x), some (.inl y)], [.inl j2], n, D, (us s 3000 j2), p, c)) rfl ?_
    refine tz_le (x := j2) rfl rfl (by omega) (fun h9 => ?_) (fun h9 => ?_)
    · show tt Zi d 198 (67, [some (.inr (.inl 30)), some (.inl a_), some (.inl x), some (.inl y)], [], n, D, (us s 3000 j2), p, c) _
      refine tt_k 11 (S' := (83, [some (.inr (.inl 30)), some (.inl a_), some (.inl x), some (.inl y)], [.inl ((((4096 * a_) + (64 * y)) + x)), .inr (.inl 33)], n, D, (us s 3000 j2), p, c)) rfl ?_
      refine tt_ildv (i := (((4096 * a_) + (64 * y)) + x)) (v := (c 33 ((((4096 * a_) + (64 * y)) + x)).toNat)) rfl rfl (by omega) rfl ?_
      show tt Zi d 198 (84, [some (.inr (.inl 30)), some (.inl a_), some (.inl x), some (.inl y)], [.inl ((c 33 ((((4096 * a_) + (64 * y)) + x)).toNat))], n, D, (us s 3000 j2), p, c) _
      have b10 : 0 ≤ (c 33 ((((4096 * a_) + (64 * y)) + x)).toNat) ∧ (c 33 ((((4096 * a_) + (64 * y)) + x)).toNat) ≤ 65535 := hC 33 _
      exact tt_rti rfl rfl ⟨(us s 3000 j2), (c 33 ((((4096 * a_) + (64 * y)) + x)).toNat), rfl, rfl, (bS_us hS (show 0 ≤ j2 ∧ j2 ≤ 2 by omega)), (fr_us (by decide) fr_rf), by omega⟩
    · show tt Zi d 198 (63, [some (.inr (.inl 30)), some (.inl a_), some (.inl x), some (.inl y)], [], n, D, (us s 3000 j2), p, c) _
      refine tt_k 2 (S' := (84, [some (.inr (.inl 30)), some (.inl a_), some (.inl x), some (.inl y)], [.inl 0], n, D, (us s 3000 j2), p, c)) rfl ?_
      exact tt_rti rfl rfl ⟨(us s 3000 j2), 0, rfl, rfl, (bS_us hS (show 0 ≤ j2 ∧ j2 ≤ 2 by omega)), (fr_us (by decide) fr_rf), by omega⟩
  refine tz_ne (x := (s 3007)) rfl rfl (by omega) (fun h11 => ?_) (fun h11 => ?_)
  · show tt Zi d 198 (12, [some (.inr (.inl 30)), some (.inl a_), some (.inl x), some (.inl y)], [.inr (.inl 30)], n, D, s, p, c) _
    refine tt_k 1 (S' := (13, [some (.inr (.inl 30)), some (.inl a_), some (.inl x), some (.inl y)], [.inl a_, .inr (.inl 30)], n, D, s, p, c)) rfl ?_
    refine tz_lt (x := a_) rfl rfl (by omega) (fun h12 => ?_) (fun h12 => ?_)
    · show tt Zi d 198 (52, [some (.inr (.inl 30)), some (.inl a_), some (.inl x), some (.inl y)], [.inr (.inl 30)], n, D, s, p, c) _
      refine tt_k 1 (S' := (53, [some (.inr (.inl 30)), some (.inl a_), some (.inl x), some (.inl y)], [.inl 2, .inr (.inl 30)], n, D, s, p, c)) rfl ?_
      exact K3 2  (by omega) (Or.inl ⟨h11, h12, rfl⟩)
    · show tt Zi d 198 (16, [some (.inr (.inl 30)), some (.inl a_), some (.inl x), some (.inl y)], [.inr (.inl 30)], n, D, s, p, c) _
      refine tt_k 3 (S' := (21, [some (.inr (.inl 30)), some (.inl a_), some (.inl x), some (.inl y)], [.inl (s 3010), .inl a_, .inr (.inl 30)], n, D, s, p, c)) rfl ?_
      have b13 : 0 ≤ (s 3010) ∧ (s 3010) ≤ 3 := hS 3010
      refine tb_ge (x := a_) (y := (s 3010)) rfl rfl (by omega) (fun h14 => ?_) (fun h14 => ?_)
      · show tt Zi d 198 (52, [some (.inr (.inl 30)), some (.inl a_), some (.inl x), some (.inl y)], [.inr (.inl 30)], n, D, s, p, c) _
        refine tt_k 1 (S' := (53, [some (.inr (.inl 30)), some (.inl a_), some (.inl x), some (.inl y)], [.inl 2, .inr (.inl 30)], n, D, s, p, c)) rfl ?_
        exact K3 2  (by omega) (Or.inr (Or.inl ⟨h11, h12, h14, rfl⟩))
      · show tt Zi d 198 (24, [some (.inr (.inl 30)), some (.inl a_), some (.inl x), some (.inl y)], [.inr (.inl 30)], n, D, s, p, c) _
        refine tt_k 1 (S' := (25, [some (.inr (.inl 30)), some (.inl a_), some (.inl x), some (.inl y)], [.inl x, .inr (.inl 30)], n, D, s, p, c)) rfl ?_
        refine tz_lt (x := x) rfl rfl (by omega) (fun h15 => ?_) (fun h15 => ?_)
        · show tt Zi d 198 (52, [some (.inr (.inl 30)), some (.inl a_), some (.inl x), some (.inl y)], [.inr (.inl 30)], n, D, s, p, c) _
          refine tt_k 1 (S' := (53, [some (.inr (.inl 30)), some (.inl a_), some (.inl x), some (.inl y)], [.inl 2, .inr (.inl 30)], n, D, s, p, c)) rfl ?_
          exact K3 2  (by omega) (Or.inr (Or.inr (Or.inl ⟨h11, h12, h14, h15, rfl⟩)))
        · show tt Zi d 198 (28, [some (.inr (.inl 30)), some (.inl a_), some (.inl x), some (.inl y)], [.inr (.inl 30)], n, D, s, p, c) _
          refine tt_k 3 (S' := (33, [some (.inr (.inl 30)), some (.inl a_), some (.inl x), some (.inl y)], [.inl (s 3008), .inl x, .inr (.inl 30)], n, D, s, p, c)) rfl ?_
          have b16 : 0 ≤ (s 3008) ∧ (s 3008) ≤ 64 := hS 3008
          refine tb_ge (x := x) (y := (s 3008)) rfl rfl (by omega) (fun h17 => ?_) (fun h17 => ?_)
          · show tt Zi d 198 (52, [some (.inr (.inl 30)), some (.inl a_), some (.inl x), some (.inl y)], [.inr (.inl 30)], n, D, s, p, c) _
            refine tt_k 1 (S' := (53, [some (.inr (.inl 30)), some (.inl a_), some (.inl x), some (.inl y)], [.inl 2, .inr (.inl 30)], n, D, s, p, c)) rfl ?_
            exact K3 2  (by omega) (Or.inr (Or.inr (Or.inr (Or.inl ⟨h11, h12, h14, h15, h17, rfl⟩))))
          · show tt Zi d 198 (36, [some (.inr (.inl 30)), some (.inl a_), some (.inl x), some (.inl y)], [.inr (.inl 30)], n, D, s, p, c) _
            refine tt_k 1 (S' := (37, [some (.inr (.inl 30)), some (.inl a_), some (.inl x), some (.inl y)], [.inl y, .inr (.inl 30)], n, D, s, p, c)) rfl ?_
            refine tz_lt (x := y) rfl rfl (by omega) (fun h18 => ?_) (fun h18 => ?_)
            · show tt Zi d 198 (52, [some (.inr (.inl 30)), some (.inl a_), some (.inl x), some (.inl y)], [.inr (.inl 30)], n, D, s, p, c) _
              refine tt_k 1 (S' := (53, [some (.inr (.inl 30)), some (.inl a_), some (.inl x), some (.inl y)], [.inl 2, .inr (.inl 30)], n, D, s, p, c)) rfl ?_
              exact K3 2  (by omega) (Or.inr (Or.inr (Or.inr (Or.inr (Or.inl ⟨h11, h12, h14, h15, h17, h18, rfl⟩)))))
            · show tt Zi d 198 (40, [some (.inr (.inl 30)), some (.inl a_), some (.inl x), some (.inl y)], [.inr (.inl 30)], n, D, s, p, c) _
              refine tt_k 3 (S' := (45, [some (.inr (.inl 30)), some (.inl a_), some (.inl x), some (.inl y)], [.inl (s 3009), .inl y, .inr (.inl 30)], n, D, s, p, c)) rfl ?_
              have b19 : 0 ≤ (s 3009) ∧ (s 3009) ≤ 64 := hS 3009
              refine tb_ge (x := y) (y := (s 3009)) rfl rfl (by omega) (fun h20 => ?_) (fun h20 => ?_)
              · show tt Zi d 198 (52, [some (.inr (.inl 30)), some (.inl a_), some (.inl x), some (.inl y)], [.inr (.inl 30)], n, D, s, p, c) _
                refine tt_k 1 (S' := (53, [some (.inr (.inl 30)), some (.inl a_), some (.inl x), some (.inl y)], [.inl 2, .inr (.inl 30)], n, D, s, p, c)) rfl ?_
                exact K3 2  (by omega) (Or.inr (Or.inr (Or.inr (Or.inr (Or.inr (Or.inl ⟨h11, h12, h14, h15, h17, h18, h20, rfl⟩))))))
              · show tt Zi d 198 (48, [some (.inr (.inl 30)), some (.inl a_), some (.inl x), some (.inl y)], [.inr (.inl 30)], n, D, s, p, c) _
                refine tt_k 2 (S' := (53, [some (.inr (.inl 30)), some (.inl a_), some (.inl x), some (.inl y)], [.inl 0, .inr (.inl 30)], n, D, s, p, c)) rfl ?_
                exact K3 0  (by omega) (Or.inr (Or.inr (Or.inr (Or.inr (Or.inr (Or.inr (Or.inl ⟨h11, h12, h14, h15, h17, h18, h20, rfl⟩)))))))
  · show tt Zi d 198 (8, [some (.inr (.inl 30)), some (.inl a_), some (.inl x), some (.inl y)], [.inr (.inl 30)], n, D, s, p, c) _
    refine tt_k 2 (S' := (53, [some (.inr (.inl 30)), some (.inl a_), some (.inl x), some (.inl y)], [.inl 1, .inr (.inl 30)], n, D, s, p, c)) rfl ?_
    exact K3 1  (by omega) (Or.inr (Or.inr (Or.inr (Or.inr (Or.inr (Or.inr (Or.inr (⟨h11, rfl⟩))))))))
set_option maxRecDepth 100000 in
set_option maxHeartbeats 4000000 in
theorem k_about {Zi : Nat → Option (Nat × (Nat → Int))} {d n : Nat} {D : Nat → Nat × Nat} {s : Nat → Int} {p : Nat → Nat} {c : Nat → Nat → Int} (hd : 0 ≤ d) (hS : bS s) (hC : bC D c) (i : Int) (b_i : -2147483648 ≤ i ∧ i ≤ 2147483647) : tt Zi d 197 (0, [some (.inr (.inl 30)), some (.inl i)], [], n, D, s, p, c) (fun R H => ∃ (s' : Nat → Int) (r : Int), R = .inl (some (.inl r)) ∧ H = (n, D, s', p, c) ∧ bS s' ∧ fr s s' [3000] ∧ (0 ≤ r ∧ r ≤ 255)) := by
  refine tt_k 2 (S' := (2, [some (.inr (.inl 30)), some (.inl i)], [.inl i, .inr (.inl 30)], n, D, s, p, c)) rfl ?_
  have K2 : ∀ (j1 : Int) , (0 ≤ j1 ∧ j1 ≤ 2) → ((i < 0 ∧ j1 = 1) ∨ (0 ≤ i ∧ i ≤ 3 ∧ (s 3007) ≠ 0 ∧ j1 = 0) ∨ (0 ≤ i ∧ i ≤ 3 ∧ (s 3007) = 0 ∧ j1 = 2) ∨ (0 ≤ i ∧ 3 < i ∧ j1 = 1)) → tt Zi d 197 (26, [some (.inr (.inl 30)), some (.inl i)], [.inl j1, .inr (.inl 30)], n, D, s, p, c) (fun R H => ∃ (s' : Nat → Int) (r : Int), R = .inl (some (.inl r)) ∧ H = (n, D, s', p, c) ∧ bS s' ∧ fr s s' [3000] ∧ (0 ≤ r ∧ r ≤ 255)) := by
    intro j1 b4 hj3
    have b5 : 0 ≤ (s 3007) ∧ (s 3007) ≤ 1 := hS 3007
    refine tt_k 3 (S' := (33, [some (.inr (.inl 30)), some (.inl i)], [.inl j1], n, D, (us s 3000 j1), p, c)) rfl ?_
    refine tz_le (x := j1) rfl rfl (by omega) (fun h6 => ?_) (fun h6 => ?_)
    · show tt Zi d 197 (40, [some (.inr (.inl 30)), some (.inl i)], [], n, D, (us s 3000 j1), p, c) _
      refine tt_k 1 (S' := (41, [some (.inr (.inl 30)), some (.inl i)], [.inl i], n, D, (us s 3000 j1), p, c)) rfl ?_
      refine tz_ne (x := i) rfl rfl (by omega) (fun h7 => ?_) (fun h7 => ?_)
      · show tt Zi d 197 (51, [some (.inr (.inl 30)), some (.inl i)], [], n, D, (us s 3000 j1), p, c) _
        refine tt_k 2 (S' := (53, [some (.inr (.inl 30)), some (.inl i)], [.inl 1, .inl i], n, D, (us s 3000 j1), p, c)) rfl ?_
        refine tb_ne (x := i) (y := 1) rfl rfl (by omega) (fun h8 => ?_) (fun h8 => ?_)
        · show tt Zi d 197 (63, [some (.inr (.inl 30)), some (.inl i)], [], n, D, (us s 3000 j1), p, c) _
          refine tt_k 2 (S' := (65, [some (.inr (.inl 30)), some (.inl i)], [.inl 2, .inl i], n, D, (us s 3000 j1), p, c)) rfl ?_
          refine tb_ne (x := i) (y := 2) rfl rfl (by omega) (fun h9 => ?_) (fun h9 => ?_)
          · show tt Zi d 197 (75, [some (.inr (.inl 30)), some (.inl i)], [], n, D, (us s 3000 j1), p, c) _
            refine tt_k 2 (S' := (79, [some (.inr (.inl 30)), some (.inl i)], [.inl (s 3011)], n, D, (us s 3000 j1), p, c)) rfl ?_
            have b10 : 0 ≤ (s 3011) ∧ (s 3011) ≤ 255 := hS 3011
            exact tt_rti rfl rfl ⟨(us s 3000 j1), (s 3011), rfl, rfl, (bS_us hS (show 0 ≤ j1 ∧ j1 ≤ 2 by omega)), (fr_us (by decide) fr_rf), by omega⟩
          · show tt Zi d 197 (68, [some (.inr (.inl 30)), some (.inl i)], [], n, D, (us s 3000 j1), p, c) _
            refine tt_k 3 (S' := (79, [some (.inr (.inl 30)), some (.inl i)], [.inl (s 3010)], n, D, (us s 3000 j1), p, c)) rfl ?_
            have b11 : 0 ≤ (s 3010) ∧ (s 3010) ≤ 3 := hS 3010
            exact tt_rti rfl rfl ⟨(us s 3000 j1), (s 3010), rfl, rfl, (bS_us hS (show 0 ≤ j1 ∧ j1 ≤ 2 by omega)), (fr_us (by decide) fr_rf), by omega⟩
        · show tt Zi d 197 (56, [some (.inr (.inl 30)), some (.inl i)], [], n, D, (us s 3000 j1), p, c) _
          refine tt_k 3 (S' := (79, [some (.inr (.inl 30)), some (.inl i)], [.inl (s 3009)], n, D, (us s 3000 j1), p, c)) rfl ?_
          have b12 : 0 ≤ (s 3009) ∧ (s 3009) ≤ 64 := hS 3009
          exact tt_rti rfl rfl ⟨(us s 3000 j1), (s 3009), rfl, rfl, (bS_us hS (show 0 ≤ j1 ∧ j1 ≤ 2 by omega)), (fr_us (by decide) fr_rf), by omega⟩
      · show tt Zi d 197 (44, [some (.inr (.inl 30)), some (.inl i)], [], n, D, (us s 3000 j1), p, c) _
        refine tt_k 3 (S' := (79, [some (.inr (.inl 30)), some (.inl i)], [.inl (s 3008)], n, D, (us s 3000 j1), p, c)) rfl ?_
        have b13 : 0 ≤ (s 3008) ∧ (s 3008) ≤ 64 := hS 3008
        exact tt_rti rfl rfl ⟨(us s 3000 j1), (s 3008), rfl, rfl, (bS_us hS (show 0 ≤ j1 ∧ j1 ≤ 2 by omega)), (fr_us (by decide) fr_rf), by omega⟩
    · show tt Zi d 197 (36, [some (.inr (.inl 30)), some (.inl i)], [], n, D, (us s 3000 j1), p, c) _
      refine tt_k 2 (S' := (79, [some (.inr (.inl 30)), some (.inl i)], [.inl 0], n, D, (us s 3000 j1), p, c)) rfl ?_
      exact tt_rti rfl rfl ⟨(us s 3000 j1), 0, rfl, rfl, (bS_us hS (show 0 ≤ j1 ∧ j1 ≤ 2 by omega)), (fr_us (by decide) fr_rf), by omega⟩
  refine tz_lt (x := i) rfl rfl (by omega) (fun h14 => ?_) (fun h14 => ?_)
  · show tt Zi d 197 (10, [some (.inr (.inl 30)), some (.inl i)], [.inr (.inl 30)], n, D, s, p, c) _
    refine tt_k 2 (S' := (26, [some (.inr (.inl 30)), some (.inl i)], [.inl 1, .inr (.inl 30)], n, D, s, p, c)) rfl ?_
    exact K2 1  (by omega) (Or.inl ⟨h14, rfl⟩)
  · show tt Zi d 197 (5, [some (.inr (.inl 30)), some (.inl i)], [.inr (.inl 30)], n, D, s, p, c) _
    refine tt_k 2 (S' := (7, [some (.inr (.inl 30)), some (.inl i)], [.inl 3, .inl i, .inr (.inl 30)], n, D, s, p, c)) rfl ?_
    refine tb_le (x := i) (y := 3) rfl rfl (by omega) (fun h15 => ?_) (fun h15 => ?_)
    · show tt Zi d 197 (14, [some (.inr (.inl 30)), some (.inl i)], [.inr (.inl 30)], n, D, s, p, c) _
      refine tt_k 2 (S' := (18, [some (.inr (.inl 30)), some (.inl i)], [.inl (s 3007), .inr (.inl 30)], n, D, s, p, c)) rfl ?_
      have b16 : 0 ≤ (s 3007) ∧ (s 3007) ≤ 1 := hS 3007
      refine tz_ne (x := (s 3007)) rfl rfl (by omega) (fun h17 => ?_) (fun h17 => ?_)
      · show tt Zi d 197 (25, [some (.inr (.inl 30)), some (.inl i)], [.inr (.inl 30)], n, D, s, p, c) _
        refine tt_k 1 (S' := (26, [some (.inr (.inl 30)), some (.inl i)], [.inl 0, .inr (.inl 30)], n, D, s, p, c)) rfl ?_
        exact K2 0  (by omega) (Or.inr (Or.inl ⟨h14, h15, h17, rfl⟩))
      · show tt Zi d 197 (21, [some (.inr (.inl 30)), some (.inl i)], [.inr (.inl 30)], n, D, s, p, c) _
        refine tt_k 2 (S' := (26, [some (.inr (.inl 30)), some (.inl i)], [.inl 2, .inr (.inl 30)], n, D, s, p, c)) rfl ?_
        exact K2 2  (by omega) (Or.inr (Or.inr (Or.inl ⟨h14, h15, h17, rfl⟩)))
    · show tt Zi d 197 (10, [some (.inr (.inl 30)), some (.inl i)], [.inr (.inl 30)], n, D, s, p, c) _
      refine tt_k 2 (S' := (26, [some (.inr (.inl 30)), some (.inl i)], [.inl 1, .inr (.inl 30)], n, D, s, p, c)) rfl ?_
      exact K2 1  (by omega) (Or.inr (Or.inr (Or.inr (⟨h14, h15, rfl⟩))))
set_option maxRecDepth 100000 in
set_option maxHeartbeats 4000000 in
theorem k_learned {Zi : Nat → Option (Nat × (Nat → Int))} {d n : Nat} {D : Nat → Nat × Nat} {s : Nat → Int} {p : Nat → Nat} {c : Nat → Nat → Int} (hd : 0 ≤ d) (hS : bS s) (hC : bC D c) (i : Int) (j : Int) (b_i : -2147483648 ≤ i ∧ i ≤ 2147483647) (b_j : -2147483648 ≤ j ∧ j ≤ 2147483647) : tt Zi d 199 (0, [some (.inr (.inl 30)), some (.inl i), some (.inl j)], [], n, D, s, p, c) (fun R H => ∃ (s' : Nat → Int) (r : Int), R = .inl (some (.inl r)) ∧ H = (n, D, s', p, c) ∧ bS s' ∧ fr s s' [3000] ∧ (-2147483648 ≤ r ∧ r ≤ 2147483647)) := by
  refine tt_k 2 (S' := (2, [some (.inr (.inl 30)), some (.inl i), some (.inl j)], [.inl i, .inr (.inl 30)], n, D, s, p, c)) rfl ?_
  have K2 : ∀ (j1 : Int) , (0 ≤ j1 ∧ j1 ≤ 2) → ((i < 0 ∧ j1 = 1) ∨ (0 ≤ i ∧ i ≤ 366 ∧ j < 0 ∧ j1 = 2) ∨ (0 ≤ i ∧ i ≤ 366 ∧ 0 ≤ j ∧ j ≤ 3 ∧ j1 = 0) ∨ (0 ≤ i ∧ i ≤ 366 ∧ 0 ≤ j ∧ 3 < j ∧ j1 = 2) ∨ (0 ≤ i ∧ 366 < i ∧ j1 = 1)) → tt Zi d 199 (30, [some (.inr (.inl 30)), some (.inl i), some (.inl j)], [.inl j1, .inr (.inl 30)], n, D, s, p, c) (fun R H => ∃ (s' : Nat → Int) (r : Int), R = .inl (some (.inl r)) ∧ H = (n, D, s', p, c) ∧ bS s' ∧ fr s s' [3000] ∧ (-2147483648 ≤ r ∧ r ≤ 2147483647)) := by
    intro j1 b4 hj3
    refine tt_k 3 (S' := (37, [some (.inr (.inl 30)), some (.inl i), some (.inl j)], [.inl j1], n, D, (us s 3000 j1), p, c)) rfl ?_
    refine tz_le (x := j1) rfl rfl (by omega) (fun h5 => ?_) (fun h5 => ?_)
    · show tt Zi d 199 (44, [some (.inr (.inl 30)), some (.inl i), some (.inl j)], [], n, D, (us s 3000 j1), p, c) _
      refine tt_k 1 (S' := (45, [some (.inr (.inl 30)), some (.inl i), some (.inl j)], [.inl j], n, D, (us s 3000 j1), p, c)) rfl ?_
      refine tz_ne (x := j) rfl rfl (by omega) (fun h6 => ?_) (fun h6 => ?_)
      · show tt Zi d 199 (57, [some (.inr (.inl 30)), some (.inl i), some (.inl j)], [], n, D, (us s 3000 j1), p, c) _
        refine tt_k 2 (S' := (59, [some (.inr (.inl 30)), some (.inl i), some (.inl j)], [.inl 1, .inl j], n, D, (us s 3000 j1), p, c)) rfl ?_
        refine tb_ne (x := j) (y := 1) rfl rfl (by omega) (fun h7 => ?_) (fun h7 => ?_)
        · show tt Zi d 199 (71, [some (.inr (.inl 30)), some (.inl i), some (.inl j)], [], n, D, (us s 3000 j1), p, c) _
          refine tt_k 2 (S' := (73, [some (.inr (.inl 30)), some (.inl i), some (.inl j)], [.inl 2, .inl j], n, D, (us s 3000 j1), p, c)) rfl ?_
          refine tb_ne (x := j) (y := 2) rfl rfl (by omega) (fun h8 => ?_) (fun h8 => ?_)
          · show tt Zi d 199 (85, [some (.inr (.inl 30)), some (.inl i), some (.inl j)], [], n, D, (us s 3000 j1), p, c) _
            refine tt_k 3 (S' := (90, [some (.inr (.inl 30)), some (.inl i), some (.inl j)], [.inl i, .inr (.inl 43)], n, D, (us s 3000 j1), p, c)) rfl ?_
            refine tt_ildv (i := i) (v := (c 43 (i).toNat)) rfl rfl (by omega) rfl ?_
            show tt Zi d 199 (91, [some (.inr (.inl 30)), some (.inl i), some (.inl j)], [.inl (c 43 (i).toNat)], n, D, (us s 3000 j1), p, c) _
            have b9 : -2147483648 ≤ (c 43 (i).toNat) ∧ (c 43 (i).toNat) ≤ 2147483647 := hC 43 _
            exact tt_rti rfl rfl ⟨(us s 3000 j1), (c 43 (i).toNat), rfl, rfl, (bS_us hS (show 0 ≤ j1 ∧ j1 ≤ 2 by omega)), (fr_us (by decide) fr_rf), by omega⟩
          · show tt Zi d 199 (76, [some (.inr (.inl 30)), some (.inl i), some (.inl j)], [], n, D, (us s 3000 j1), p, c) _
            refine tt_k 3 (S' := (81, [some (.inr (.inl 30)), some (.inl i), some (.inl j)], [.inl i, .inr (.inl 42)], n, D, (us s 3000 j1), p, c)) rfl ?_
            refine tt_ildv (i := i) (v := (c 42 (i).toNat)) rfl rfl (by omega) rfl ?_
            show tt Zi d 199 (82, [some (.inr (.inl 30)), some (.inl i), some (.inl j)], [.inl (c 42 (i).toNat)], n, D, (us s 3000 j1), p, c) _
            have b10 : -2147483648 ≤ (c 42 (i).toNat) ∧ (c 42 (i).toNat) ≤ 2147483647 := hC 42 _
            refine tt_k 1 (S' := (91, [some (.inr (.inl 30)), some (.inl i), some (.inl j)], [.inl (c 42 (i).toNat)], n, D, (us s 3000 j1), p, c)) rfl ?_
            exact tt_rti rfl rfl ⟨(us s 3000 j1), (c 42 (i).toNat), rfl, rfl, (bS_us hS (show 0 ≤ j1 ∧ j1 ≤ 2 by omega)), (fr_us (by decide) fr_rf), by omega⟩
        · show tt Zi d 199 (62, [some (.inr (.inl 30)), some (.inl i), some (.inl j)], [], n, D, (us s 3000 j1), p, c) _
          refine tt_k 3 (S' := (67, [some (.inr (.inl 30)), some (.inl i), some (.inl j)], [.inl i, .inr (.inl 41)], n, D, (us s 3000 j1), p, c)) rfl ?_
          refine tt_ildv (i := i) (v := (c 41 (i).toNat)) rfl rfl (by omega) rfl ?_
          show tt Zi d 199 (68, [some (.inr (.inl 30)), some (.inl i), some (.inl j)], [.inl (c 41 (i).toNat)], n, D, (us s 3000 j1), p, c) _
          have b11 : -2147483648 ≤ (c 41 (i).toNat) ∧ (c 41 (i).toNat) ≤ 2147483647 := hC 41 _
          refine tt_k 1 (S' := (91, [some (.inr (.inl 30)), some (.inl i), some (.inl j)], [.inl (c 41 (i).toNat)], n, D, (us s 3000 j1), p, c)) rfl ?_
          exact tt_rti rfl rfl ⟨(us s 3000 j1), (c 41 (i).toNat), rfl, rfl, (bS_us hS (show 0 ≤ j1 ∧ j1 ≤ 2 by omega)), (fr_us (by decide) fr_rf), by omega⟩
      · show tt Zi d 199 (48, [some (.inr (.inl 30)), some (.inl i), some (.inl j)], [], n, D, (us s 3000 j1), p, c) _
        refine tt_k 3 (S' := (53, [some (.inr (.inl 30)), some (.inl i), some (.inl j)], [.inl i, .inr (.inl 40)], n, D, (us s 3000 j1), p, c)) rfl ?_
        refine tt_ildv (i := i) (v := (c 40 (i).toNat)) rfl rfl (by omega) rfl ?_
        show tt Zi d 199 (54, [some (.inr (.inl 30)), some (.inl i), some (.inl j)], [.inl (c 40 (i).toNat)], n, D, (us s 3000 j1), p, c) _
        have b12 : -2147483648 ≤ (c 40 (i).toNat) ∧ (c 40 (i).toNat) ≤ 2147483647 := hC 40 _
        refine tt_k 1 (S' := (91, [some (.inr (.inl 30)), some (.inl i), some (.inl j)], [.inl (c 40 (i).toNat)], n, D, (us s 3000 j1), p, c)) rfl ?_
        exact tt_rti rfl rfl ⟨(us s 3000 j1), (c 40 (i).toNat), rfl, rfl, (bS_us hS (show 0 ≤ j1 ∧ j1 ≤ 2 by omega)), (fr_us (by decide) fr_rf), by omega⟩
    · show tt Zi d 199 (40, [some (.inr (.inl 30)), some (.inl i), some (.inl j)], [], n, D, (us s 3000 j1), p, c) _
      refine tt_k 2 (S' := (91, [some (.inr (.inl 30)), some (.inl i), some (.inl j)], [.inl 0], n, D, (us s 3000 j1), p, c)) rfl ?_
      exact tt_rti rfl rfl ⟨(us s 3000 j1), 0, rfl, rfl, (bS_us hS (show 0 ≤ j1 ∧ j1 ≤ 2 by omega)), (fr_us (by decide) fr_rf), by omega⟩
  refine tz_lt (x := i) rfl rfl (by omega) (fun h13 => ?_) (fun h13 => ?_)
  · show tt Zi d 199 (12, [some (.inr (.inl 30)), some (.inl i), some (.inl j)], [.inr (.inl 30)], n, D, s, p, c) _
    refine tt_k 2 (S' := (30, [some (.inr (.inl 30)), some (.inl i), some (.inl j)], [.inl 1, .inr (.inl 30)], n, D, s, p, c)) rfl ?_
    exact K2 1  (by omega) (Or.inl ⟨h13, rfl⟩)
  · show tt Zi d 199 (5, [some (.inr (.inl 30)), some (.inl i), some (.inl j)], [.inr (.inl 30)], n, D, s, p, c) _
    refine tt_k 2 (S' := (9, [some (.inr (.inl 30)), some (.inl i), some (.inl j)], [.inl 366, .inl i, .inr (.inl 30)], n, D, s, p, c)) rfl ?_
    refine tb_le (x := i) (y := 366) rfl rfl (by omega) (fun h14 => ?_) (fun h14 => ?_)
    · show tt Zi d 199 (16, [some (.inr (.inl 30)), some (.inl i), some (.inl j)], [.inr (.inl 30)], n, D, s, p, c) _
      refine tt_k 1 (S' := (17, [some (.inr (.inl 30)), some (.inl i), some (.inl j)], [.inl j, .inr (.inl 30)], n, D, s, p, c)) rfl ?_
      refine tz_lt (x := j) rfl rfl (by omega) (fun h15 => ?_) (fun h15 => ?_)
      · show tt Zi d 199 (25, [some (.inr (.inl 30)), some (.inl i), some (.inl j)], [.inr (.inl 30)], n, D, s, p, c) _
        refine tt_k 2 (S' := (30, [some (.inr (.inl 30)), some (.inl i), some (.inl j)], [.inl 2, .inr (.inl 30)], n, D, s, p, c)) rfl ?_
        exact K2 2  (by omega) (Or.inr (Or.inl ⟨h13, h14, h15, rfl⟩))
      · show tt Zi d 199 (20, [some (.inr (.inl 30)), some (.inl i), some (.inl j)], [.inr (.inl 30)], n, D, s, p, c) _
        refine tt_k 2 (S' := (22, [some (.inr (.inl 30)), some (.inl i), some (.inl j)], [.inl 3, .inl j, .inr (.inl 30)], n, D, s, p, c)) rfl ?_
        refine tb_le (x := j) (y := 3) rfl rfl (by omega) (fun h16 => ?_) (fun h16 => ?_)
        · show tt Zi d 199 (29, [some (.inr (.inl 30)), some (.inl i), some (.inl j)], [.inr (.inl 30)], n, D, s, p, c) _
          refine tt_k 1 (S' := (30, [some (.inr (.inl 30)), some (.inl i), some (.inl j)], [.inl 0, .inr (.inl 30)], n, D, s, p, c)) rfl ?_
          exact K2 0  (by omega) (Or.inr (Or.inr (Or.inl ⟨h13, h14, h15, h16, rfl⟩)))
        · show tt Zi d 199 (25, [some (.inr (.inl 30)), some (.inl i), some (.inl j)], [.inr (.inl 30)], n, D, s, p, c) _
          refine tt_k 2 (S' := (30, [some (.inr (.inl 30)), some (.inl i), some (.inl j)], [.inl 2, .inr (.inl 30)], n, D, s, p, c)) rfl ?_
          exact K2 2  (by omega) (Or.inr (Or.inr (Or.inr (Or.inl ⟨h13, h14, h15, h16, rfl⟩))))
    · show tt Zi d 199 (12, [some (.inr (.inl 30)), some (.inl i), some (.inl j)], [.inr (.inl 30)], n, D, s, p, c) _
      refine tt_k 2 (S' := (30, [some (.inr (.inl 30)), some (.inl i), some (.inl j)], [.inl 1, .inr (.inl 30)], n, D, s, p, c)) rfl ?_
      exact K2 1  (by omega) (Or.inr (Or.inr (Or.inr (Or.inr (⟨h13, h14, rfl⟩)))))
set_option maxRecDepth 100000 in
set_option maxHeartbeats 4000000 in
theorem k_type_L3 {Zi : Nat → Option (Nat × (Nat → Int))} {d n : Nat} {D : Nat → Nat × Nat} {s : Nat → Int} {p : Nat → Nat} {c : Nat → Nat → Int}  {Q : mi_Rs → mi_H → Prop} (hd : 0 ≤ d) (hS : bS s) (hC : bC D c) (U : Int) (hU : U ≤ 32768) (v : Int) (b_v : -2147483648 ≤ v ∧ v ≤ 2147483647)
  (hK : ∀ (k : Int) (s0 : Nat → Int) (c0 : Nat → Nat → Int) (b_k : -8 ≤ k ∧ k ≤ 24) (hS0 : bS s0) (hF0 : fr s s0 [3014]) (hC0 : bC D c0) (hG0 : frc c c0 [34]) (i0 : 8 * s0 3014 + k + 8 = 8 * U), k = -8 → tt Zi d 180 (36, [some (.inr (.inl 30)), some (.inl v), some (.inl k)], [], n, D, s0, p, c0) Q) :
  ∀ (m : Nat) (k : Int) (s0 : Nat → Int) (c0 : Nat → Nat → Int) (b_k : -8 ≤ k ∧ k ≤ 24) (hS0 : bS s0) (hF0 : fr s s0 [3014]) (hC0 : bC D c0) (hG0 : frc c c0 [34]) (i0 : 8 * s0 3014 + k + 8 = 8 * U), (k + 8).toNat < m → tt Zi d 180 (3, [some (.inr (.inl 30)), some (.inl v), some (.inl k)], [], n, D, s0, p, c0) Q := by
  intro m
  induction m with
  | zero => intro k s0 c0 b_k hS0 hF0 hC0 hG0 i0 hm; exact absurd hm (by omega)
  | succ m ih =>
    intro k s0 c0 b_k hS0 hF0 hC0 hG0 i0 hm
    refine tt_k 1 (S' := (4, [some (.inr (.inl 30)), some (.inl v), some (.inl k)], [.inl k], n, D, s0, p, c0)) rfl ?_
    refine tz_lt (x := k) rfl rfl (by omega) (fun h1 => ?_) (fun h1 => ?_)
    · show tt Zi d 180 (36, [some (.inr (.inl 30)), some (.inl v), some (.inl k)], [], n, D, s0, p, c0) _
      exact hK k s0 c0 (by omega) hS0 hF0 hC0 hG0 (show 8 * (s0 3014) + k + 8 = 8 * U by omega) (by omega)
    · show tt Zi d 180 (7, [some (.inr (.inl 30)), some (.inl v), some (.inl k)], [], n, D, s0, p, c0) _
      refine tt_k 8 (S' := (19, [some (.inr (.inl 30)), some (.inl v), some (.inl k)], [.inl (mi_i2b (mi_shr v k)), .inl (s0 3014), .inr (.inl 34)], n, D, s0, p, c0)) rfl ?_
      have b2 : 0 ≤ (s0 3014) ∧ (s0 3014) ≤ 32768 := hS0 3014
      have e3 := mi_shr_bd v k
      have e4 := mi_i2b_bd (mi_shr v k)
      refine tt_bst (i := (s0 3014)) (x := (mi_i2b (mi_shr v k))) rfl rfl (by omega) ?_
      show tt Zi d 180 (20, [some (.inr (.inl 30)), some (.inl v), some (.inl k)], [], n, D, s0, p, (uc c0 34 (ua (c0 34) ((s0 3014)).toNat (mi_nb (mi_i2b (mi_shr v k)))))) _
      refine tt_k 8 (S' := (3, [some (.inr (.inl 30)), some (.inl v), some (.inl (k + (-8)))], [], n, D, (us s0 3014 ((s0 3014) + 1)), p, (uc c0 34 (ua (c0 34) ((s0 3014)).toNat (mi_nb (mi_i2b (mi_shr v k))))))) rfl ?_
      exact ih (k + (-8)) (us s0 3014 ((s0 3014) + 1)) (uc c0 34 (ua (c0 34) ((s0 3014)).toNat (mi_nb (mi_i2b (mi_shr v k))))) (by omega) (bS_us hS0 (show 0 ≤ ((s0 3014) + 1) ∧ ((s0 3014) + 1) ≤ 32768 by omega)) (fr_us (by decide) hF0) (bC_st hC0 (mi_nb_bd _)) (frc_uc (by decide) hG0) (show 8 * ((s0 3014) + 1) + (k + (-8)) + 8 = 8 * U by omega) (show ((k + (-8)) + 8).toNat < m by omega)
set_option maxRecDepth 100000 in
set_option maxHeartbeats 4000000 in
theorem k_type {Zi : Nat → Option (Nat × (Nat → Int))} {d n : Nat} {D : Nat → Nat × Nat} {s : Nat → Int} {p : Nat → Nat} {c : Nat → Nat → Int} (hd : 0 ≤ d) (hS : bS s) (hC : bC D c) (v : Int) (b_v : -2147483648 ≤ v ∧ v ≤ 2147483647) (hp0 : s 3014 ≤ 32764) : tt Zi d 180 (0, [some (.inr (.inl 30)), some (.inl v), none], [], n, D, s, p, c) (fun R H => ∃ (s' : Nat → Int) (c' : Nat → Nat → Int), R = .inl none ∧ H = (n, D, s', p, c') ∧ bS s' ∧ bC D c' ∧ fr s s' [3014] ∧ frc c c' [34] ∧ (s' 3014 = s 3014 + 4)) := by
  refine tt_k 2 (S' := (3, [some (.inr (.inl 30)), some (.inl v), some (.inl 24)], [], n, D, s, p, c)) rfl ?_
  refine k_type_L3 (Zi := Zi) (D := D) (s := s) (p := p) (c := c) hd hS hC (s 3014 + 4) (by omega) v (by omega) ?_ _ 24 s c (by omega) hS fr_rf hC frc_rf (show 8 * ((s 3014)) + 24 + 8 = 8 * (s 3014 + 4) by omega) (Nat.lt_succ_self _)
  intro x1 s2 c3 b4 hS2 f5 hC3 g6 i7 hx8
  show tt Zi d 180 (36, [some (.inr (.inl 30)), some (.inl v), some (.inl x1)], [], n, D, s2, p, c3) _
  exact tt_rtv rfl rfl ⟨s2, c3, rfl, rfl, hS2, hC3, (fr_tr fr_rf f5 (by decide)), (frc_tr frc_rf g6 (by decide)), by show (s2 3014) = s 3014 + 4; omega⟩
