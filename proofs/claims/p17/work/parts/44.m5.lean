/-! the reference's calls but pack and unpack -/
set_option maxRecDepth 100000 in
set_option maxHeartbeats 4000000 in
theorem k_fault0 {Zi : Nat → Option (Nat × (Nat → Int))} {d n : Nat} {D : Nat → Nat × Nat} {s : Nat → Int} {p : Nat → Nat} {c : Nat → Nat → Int} (hd : 0 ≤ d) (hS : bS s) (hC : bC D c)  : tt Zi d 149 (0, [some (.inr (.inl 30))], [], n, D, s, p, c) (fun R H => ∃ (s' : Nat → Int), R = .inl none ∧ H = (n, D, s', p, c) ∧ bS s' ∧ fr s s' [3050, 3062] ∧ (s' 3050 = 0)) := by
  refine tt_k 7 (S' := (13, [some (.inr (.inl 30))], [], n, D, (us (us s 3062 (s 3050)) 3050 0), p, c)) rfl ?_
  have b1 : 0 ≤ (s 3050) ∧ (s 3050) ≤ 8 := hS 3050
  exact tt_rtv rfl rfl ⟨(us (us s 3062 (s 3050)) 3050 0), rfl, rfl, (bS_us (bS_us hS (show 0 ≤ (s 3050) ∧ (s 3050) ≤ 8 by omega)) (show 0 ≤ 0 ∧ 0 ≤ 8 by omega)), (fr_us (by decide) (fr_us (by decide) fr_rf)), rfl⟩
set_option maxRecDepth 100000 in
set_option maxHeartbeats 4000000 in
theorem k_size {Zi : Nat → Option (Nat × (Nat → Int))} {d n : Nat} {D : Nat → Nat × Nat} {s : Nat → Int} {p : Nat → Nat} {c : Nat → Nat → Int} (hd : 0 ≤ d) (hS : bS s) (hC : bC D c)  : tt Zi d 178 (0, [some (.inr (.inl 30))], [], n, D, s, p, c) (fun R H => ∃ (s' : Nat → Int) (r : Int), R = .inl (some (.inl r)) ∧ H = (n, D, s', p, c) ∧ bS s' ∧ fr s s' [3000] ∧ (0 ≤ r ∧ r ≤ 65536) ∧ (r = s 3016) ∧ (s' 3000 = 0)) := by
  refine tt_k 5 (S' := (9, [some (.inr (.inl 30))], [.inl (s 3016)], n, D, (us s 3000 0), p, c)) rfl ?_
  have b1 : 0 ≤ (s 3016) ∧ (s 3016) ≤ 65536 := hS 3016
  exact tt_rti rfl rfl ⟨(us s 3000 0), (s 3016), rfl, rfl, (bS_us hS (show 0 ≤ 0 ∧ 0 ≤ 2 by omega)), (fr_us (by decide) fr_rf), by omega, rfl, rfl⟩
set_option maxRecDepth 100000 in
set_option maxHeartbeats 4000000 in
theorem k_place {Zi : Nat → Option (Nat × (Nat → Int))} {d n : Nat} {D : Nat → Nat × Nat} {s : Nat → Int} {p : Nat → Nat} {c : Nat → Nat → Int} (hd : 0 ≤ d) (hS : bS s) (hC : bC D c)  : tt Zi d 197 (0, [some (.inr (.inl 30))], [], n, D, s, p, c) (fun R H => ∃ (s' : Nat → Int) (r : Int), R = .inl (some (.inl r)) ∧ H = (n, D, s', p, c) ∧ bS s' ∧ fr s s' [3000] ∧ (-1 ≤ r ∧ r ≤ 32769) ∧ (r = s 3051) ∧ (s' 3000 = 0)) := by
  refine tt_k 5 (S' := (9, [some (.inr (.inl 30))], [.inl (s 3051)], n, D, (us s 3000 0), p, c)) rfl ?_
  have b1 : -1 ≤ (s 3051) ∧ (s 3051) ≤ 32769 := hS 3051
  exact tt_rti rfl rfl ⟨(us s 3000 0), (s 3051), rfl, rfl, (bS_us hS (show 0 ≤ 0 ∧ 0 ≤ 2 by omega)), (fr_us (by decide) fr_rf), by omega, rfl, rfl⟩
set_option maxRecDepth 100000 in
set_option maxHeartbeats 4000000 in
theorem k_end {Zi : Nat → Option (Nat × (Nat → Int))} {d n : Nat} {D : Nat → Nat × Nat} {s : Nat → Int} {p : Nat → Nat} {c : Nat → Nat → Int} (hd : 0 ≤ d) (hS : bS s) (hC : bC D c) (i : Int) (b_i : -2147483648 ≤ i ∧ i ≤ 2147483647) : tt Zi d 182 (0, [some (.inr (.inl 30)), some (.inl i)], [], n, D, s, p, c) (fun R H => ∃ (s' : Nat → Int), R = .inl none ∧ H = (n, D, s', p, c) ∧ bS s' ∧ fr s s' [3000, 3014] ∧ (s' 3000 = if 0 ≤ i ∧ i ≤ s 3014 then 0 else 1) ∧ (s' 3014 = if 0 ≤ i ∧ i ≤ s 3014 then i else s 3014)) := by
  refine tt_k 2 (S' := (2, [some (.inr (.inl 30)), some (.inl i)], [.inl i, .inr (.inl 30)], n, D, s, p, c)) rfl ?_
  have K2 : ∀ (j1 : Int) , (0 ≤ j1 ∧ j1 ≤ 1) → ((i < 0 ∧ j1 = 1) ∨ (0 ≤ i ∧ i ≤ (s 3014) ∧ j1 = 0) ∨ (0 ≤ i ∧ (s 3014) < i ∧ j1 = 1)) → tt Zi d 182 (18, [some (.inr (.inl 30)), some (.inl i)], [.inl j1, .inr (.inl 30)], n, D, s, p, c) (fun R H => ∃ (s' : Nat → Int), R = .inl none ∧ H = (n, D, s', p, c) ∧ bS s' ∧ fr s s' [3000, 3014] ∧ (s' 3000 = if 0 ≤ i ∧ i ≤ s 3014 then 0 else 1) ∧ (s' 3014 = if 0 ≤ i ∧ i ≤ s 3014 then i else s 3014)) := by
    intro j1 b4 hj3
    have b5 : 0 ≤ (s 3014) ∧ (s 3014) ≤ 32768 := hS 3014
    refine tt_k 3 (S' := (25, [some (.inr (.inl 30)), some (.inl i)], [.inl j1], n, D, (us s 3000 j1), p, c)) rfl ?_
    refine tz_ne (x := j1) rfl rfl (by omega) (fun h6 => ?_) (fun h6 => ?_)
    · show tt Zi d 182 (33, [some (.inr (.inl 30)), some (.inl i)], [], n, D, (us s 3000 j1), p, c) _
      exact tt_rtv rfl rfl ⟨(us s 3000 j1), rfl, rfl, (bS_us hS (show 0 ≤ j1 ∧ j1 ≤ 2 by omega)), (fr_us (by decide) fr_rf), by show j1 = if 0 ≤ i ∧ i ≤ s 3014 then 0 else 1; first | omega | (split <;> omega) | (split <;> (try split) <;> omega), by show (s 3014) = if 0 ≤ i ∧ i ≤ s 3014 then i else s 3014; first | omega | (split <;> omega) | (split <;> (try split) <;> omega)⟩
    · show tt Zi d 182 (28, [some (.inr (.inl 30)), some (.inl i)], [], n, D, (us s 3000 j1), p, c) _
      refine tt_k 3 (S' := (33, [some (.inr (.inl 30)), some (.inl i)], [], n, D, (us (us s 3000 j1) 3014 i), p, c)) rfl ?_
      exact tt_rtv rfl rfl ⟨(us (us s 3000 j1) 3014 i), rfl, rfl, (bS_us (bS_us hS (show 0 ≤ j1 ∧ j1 ≤ 2 by omega)) (show 0 ≤ i ∧ i ≤ 32768 by omega)), (fr_us (by decide) (fr_us (by decide) fr_rf)), by show j1 = if 0 ≤ i ∧ i ≤ s 3014 then 0 else 1; first | omega | (split <;> omega) | (split <;> (try split) <;> omega), by show i = if 0 ≤ i ∧ i ≤ s 3014 then i else s 3014; first | omega | (split <;> omega) | (split <;> (try split) <;> omega)⟩
  refine tz_lt (x := i) rfl rfl (by omega) (fun h7 => ?_) (fun h7 => ?_)
  · show tt Zi d 182 (13, [some (.inr (.inl 30)), some (.inl i)], [.inr (.inl 30)], n, D, s, p, c) _
    refine tt_k 2 (S' := (18, [some (.inr (.inl 30)), some (.inl i)], [.inl 1, .inr (.inl 30)], n, D, s, p, c)) rfl ?_
    exact K2 1  (by omega) (Or.inl ⟨h7, rfl⟩)
  · show tt Zi d 182 (5, [some (.inr (.inl 30)), some (.inl i)], [.inr (.inl 30)], n, D, s, p, c) _
    refine tt_k 3 (S' := (10, [some (.inr (.inl 30)), some (.inl i)], [.inl (s 3014), .inl i, .inr (.inl 30)], n, D, s, p, c)) rfl ?_
    have b8 : 0 ≤ (s 3014) ∧ (s 3014) ≤ 32768 := hS 3014
    refine tb_le (x := i) (y := (s 3014)) rfl rfl (by omega) (fun h9 => ?_) (fun h9 => ?_)
    · show tt Zi d 182 (17, [some (.inr (.inl 30)), some (.inl i)], [.inr (.inl 30)], n, D, s, p, c) _
      refine tt_k 1 (S' := (18, [some (.inr (.inl 30)), some (.inl i)], [.inl 0, .inr (.inl 30)], n, D, s, p, c)) rfl ?_
      exact K2 0  (by omega) (Or.inr (Or.inl ⟨h7, h9, rfl⟩))
    · show tt Zi d 182 (13, [some (.inr (.inl 30)), some (.inl i)], [.inr (.inl 30)], n, D, s, p, c) _
      refine tt_k 2 (S' := (18, [some (.inr (.inl 30)), some (.inl i)], [.inl 1, .inr (.inl 30)], n, D, s, p, c)) rfl ?_
      exact K2 1  (by omega) (Or.inr (Or.inr (⟨h7, h9, rfl⟩)))
