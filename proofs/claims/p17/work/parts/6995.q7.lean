/-! the reference reads bytes, marks, sections, exactly -/
/-- a name that stood there before -/
def dupN (f : Nat → Int) (k : Int) : Prop := ∃ j : Int, (0 ≤ j ∧ j < k) ∧ f j.toNat = f k.toNat
/-- what a FRAME says ahead of its names -/
def oF (A : TN) (a n : Int) : Prop := n = qP A a ∧ gT A a = 8 + 3 * qP A a ∧ (2 ≤ qD A a ∧ qD A a ≤ 16) ∧ (1 ≤ qH A a ∧ qH A a ≤ 64) ∧ (1 ≤ qW A a ∧ qW A a ≤ 64) ∧ (qP A a = 1 ∨ qP A a = 3)
set_option maxRecDepth 100000 in
set_option maxHeartbeats 4000000 in
theorem v_nextByte {Zi : Nat → Option (Nat × (Nat → Int))} {d n : Nat} {D : Nat → Nat × Nat} {s : Nat → Int} {p : Nat → Nat} {c : Nat → Nat → Int} (hd : 1 ≤ d) (hS : bS s) (hC : bC D c) (A : TN) (hp0 : tpl A (s 3014) (c 34)) : tt Zi d 188 (0, [some (.inr (.inl 30)), none], [], n, D, s, p, c) (fun R H => ∃ (s' : Nat → Int) (r : Int), R = .inl (some (.inl r)) ∧ H = (n, D, s', p, c) ∧ bS s' ∧ fr s s' [3049, 3050, 3051] ∧ (0 ≤ r ∧ r ≤ 255) ∧ (s' 3050 = 0 → (s 3049 < A.2 ∧ gB A (s 3049) = r) ∧ s' 3049 = s 3049 + 1 ∧ s' 3049 ≤ s 3014) ∧ (s 3050 = 0 → s' 3050 ≠ 0 → A.2 ≤ s 3049) ∧ (s 3050 ≠ 0 → s' 3050 ≠ 0) ∧ (s 3049 ≤ s' 3049)) := by
  have hA := hp0.1
  have b1 : 0 ≤ (s 3049) ∧ (s 3049) ≤ 32769 := hS 3049
  have b2 : 0 ≤ (s 3014) ∧ (s 3014) ≤ 32768 := hS 3014
  have b3 : 0 ≤ (s 3050) ∧ (s 3050) ≤ 8 := hS 3050
  refine tt_k 4 (S' := (8, [some (.inr (.inl 30)), none], [.inl (s 3014), .inl (s 3049)], n, D, s, p, c)) rfl ?_
  refine tb_lt (x := (s 3049)) (y := (s 3014)) rfl rfl (by omega) (fun h4 => ?_) (fun h4 => ?_)
  · show tt Zi d 188 (22, [some (.inr (.inl 30)), none], [], n, D, s, p, c) _
    refine tt_k 4 (S' := (30, [some (.inr (.inl 30)), none], [.inl (s 3049), .inr (.inl 34)], n, D, s, p, c)) rfl ?_
    refine tt_bldv (i := (s 3049)) (v := (c 34 ((s 3049)).toNat)) rfl rfl (by omega) rfl ?_
    show tt Zi d 188 (31, [some (.inr (.inl 30)), none], [.inl ((c 34 ((s 3049)).toNat))], n, D, s, p, c) _
    have b5 : -128 ≤ (c 34 ((s 3049)).toNat) ∧ (c 34 ((s 3049)).toNat) ≤ 127 := hC 34 _
    refine tt_k 10 (S' := (47, [some (.inr (.inl 30)), some (.inl ((mi_and (c 34 ((s 3049)).toNat) 255)))], [.inl ((mi_and (c 34 ((s 3049)).toNat) 255))], n, D, (us s 3049 ((s 3049) + 1)), p, c)) rfl ?_
    have e6 := mi_and255 ((c 34 ((s 3049)).toNat))
    exact tt_rti rfl rfl ⟨(us s 3049 ((s 3049) + 1)), (mi_and (c 34 ((s 3049)).toNat) 255), rfl, rfl, (bS_us hS (show 0 ≤ ((s 3049) + 1) ∧ ((s 3049) + 1) ≤ 32769 by omega)), (fr_us (by decide) fr_rf), by omega, by show (s 3050) = 0 → (s 3049 < A.2 ∧ gB A (s 3049) = ((mi_and (c 34 ((s 3049)).toNat) 255))) ∧ ((s 3049) + 1) = s 3049 + 1 ∧ ((s 3049) + 1) ≤ s 3014; intro hf; exact ⟨rdB_g (rdB_s hp0 (by omega) rfl), by omega⟩, by show s 3050 = 0 → (s 3050) ≠ 0 → A.2 ≤ s 3049; omega, by show s 3050 ≠ 0 → (s 3050) ≠ 0; omega, by show s 3049 ≤ ((s 3049) + 1); omega⟩
  · show tt Zi d 188 (11, [some (.inr (.inl 30)), none], [], n, D, s, p, c) _
    refine tt_k 4 (S' := (17, [some (.inr (.inl 30)), none], [.inl (s 3014), .inl 1, .inr (.inl 30)], n, D, s, p, c)) rfl ?_
    refine tt_cl (by omega) rfl (k_fail (Zi := Zi) (D := D) (s := s) (p := p) (c := c) (by omega) hS hC 1 (s 3014) (by omega) (by omega)) ?_
    rintro _ _ ⟨s7, rfl, rfl, hS7, f8, k9, k10⟩
    show tt Zi d 188 (20, [some (.inr (.inl 30)), none], [], n, D, s7, p, c) _
    replace k9 : ((s 3050) = 0 → (s7 3050) = 1 ∧ (s7 3051) = (s 3014)) := k9
    replace k10 : ((s 3050) ≠ 0 → (s7 3050) = (s 3050) ∧ (s7 3051) = (s 3051)) := k10
    have b11 : 0 ≤ (s7 3050) ∧ (s7 3050) ≤ 8 := hS7 3050
    have b12 : -1 ≤ (s7 3051) ∧ (s7 3051) ≤ 32769 := hS7 3051
    have b13 : -1 ≤ (s 3051) ∧ (s 3051) ≤ 32769 := hS 3051
    have e14 : s7 3049 = (s 3049) := (f8 3049 (by decide))
    have b15 : 0 ≤ (s7 3049) ∧ (s7 3049) ≤ 32769 := hS7 3049
    have e16 : s7 3014 = (s 3014) := (f8 3014 (by decide))
    have b17 : 0 ≤ (s7 3014) ∧ (s7 3014) ≤ 32768 := hS7 3014
    have hx18 : tpl A (s7 3014) (c 34) := by rw [f8 3014 (by decide)]; exact hp0
    refine tt_k 1 (S' := (21, [some (.inr (.inl 30)), none], [.inl 0], n, D, s7, p, c)) rfl ?_
    exact tt_rti rfl rfl ⟨s7, 0, rfl, rfl, hS7, (fr_tr fr_rf f8 (by decide)), by omega, by show (s7 3050) = 0 → (s 3049 < A.2 ∧ gB A (s 3049) = 0) ∧ (s7 3049) = s 3049 + 1 ∧ (s7 3049) ≤ s 3014; intro hf; exact absurd hf (by omega), by show s 3050 = 0 → (s7 3050) ≠ 0 → A.2 ≤ s 3049; omega, by show s 3050 ≠ 0 → (s7 3050) ≠ 0; omega, by show s 3049 ≤ (s7 3049); omega⟩
set_option maxRecDepth 100000 in
set_option maxHeartbeats 4000000 in
theorem v_nextTwo {Zi : Nat → Option (Nat × (Nat → Int))} {d n : Nat} {D : Nat → Nat × Nat} {s : Nat → Int} {p : Nat → Nat} {c : Nat → Nat → Int} (hd : 2 ≤ d) (hS : bS s) (hC : bC D c) (A : TN) (hp0 : tpl A (s 3014) (c 34)) : tt Zi d 191 (0, [some (.inr (.inl 30)), none], [], n, D, s, p, c) (fun R H => ∃ (s' : Nat → Int) (r : Int), R = .inl (some (.inl r)) ∧ H = (n, D, s', p, c) ∧ bS s' ∧ fr s s' [3049, 3050, 3051] ∧ (0 ≤ r ∧ r ≤ 65535) ∧ (s' 3050 = 0 → (s 3049 + 1 < A.2 ∧ gT A (s 3049) = r) ∧ s' 3049 = s 3049 + 2 ∧ s' 3049 ≤ s 3014) ∧ (s 3050 = 0 → s' 3050 ≠ 0 → A.2 ≤ s 3049 + 1) ∧ (s 3050 ≠ 0 → s' 3050 ≠ 0) ∧ (s 3049 ≤ s' 3049)) := by
  have hA := hp0.1
  have b1 : 0 ≤ (s 3049) ∧ (s 3049) ≤ 32769 := hS 3049
  have b2 : 0 ≤ (s 3014) ∧ (s 3014) ≤ 32768 := hS 3014
  have b3 : 0 ≤ (s 3050) ∧ (s 3050) ≤ 8 := hS 3050
  refine tt_k 1 (S' := (1, [some (.inr (.inl 30)), none], [.inr (.inl 30)], n, D, s, p, c)) rfl ?_
  refine tt_cl (by omega) rfl (v_nextByte (Zi := Zi) (D := D) (s := s) (p := p) (c := c) (by omega) hS hC A hp0) ?_
  rintro _ _ ⟨s4, r5, rfl, rfl, hS4, f6, b7, k8, k9, k10, k11⟩
  show tt Zi d 191 (4, [some (.inr (.inl 30)), none], [.inl r5], n, D, s4, p, c) _
  replace k8 : (s4 3050) = 0 → ((s 3049) < A.2 ∧ gB A ((s 3049)) = r5) ∧ (s4 3049) = (s 3049) + 1 ∧ (s4 3049) ≤ (s 3014) := k8
  replace k9 : (s 3050) = 0 → (s4 3050) ≠ 0 → A.2 ≤ (s 3049) := k9
  replace k10 : (s 3050) ≠ 0 → (s4 3050) ≠ 0 := k10
  replace k11 : (s 3049) ≤ (s4 3049) := k11
  have b12 : 0 ≤ (s4 3050) ∧ (s4 3050) ≤ 8 := hS4 3050
  have b13 : 0 ≤ (s4 3049) ∧ (s4 3049) ≤ 32769 := hS4 3049
  have e14 : s4 3014 = (s 3014) := (f6 3014 (by decide))
  have b15 : 0 ≤ (s4 3014) ∧ (s4 3014) ≤ 32768 := hS4 3014
  have hx16 : tpl A (s4 3014) (c 34) := by rw [f6 3014 (by decide)]; exact hp0
  refine tt_k 3 (S' := (9, [some (.inr (.inl 30)), some (.inl r5)], [.inl (s4 3050)], n, D, s4, p, c)) rfl ?_
  refine tz_le (x := (s4 3050)) rfl rfl (by omega) (fun h17 => ?_) (fun h17 => ?_)
  · show tt Zi d 191 (16, [some (.inr (.inl 30)), some (.inl r5)], [], n, D, s4, p, c) _
    refine tt_k 4 (S' := (22, [some (.inr (.inl 30)), some (.inl r5)], [.inr (.inl 30), .inl (256 * r5)], n, D, s4, p, c)) rfl ?_
    refine tt_cl (by omega) rfl (v_nextByte (Zi := Zi) (D := D) (s := s4) (p := p) (c := c) (by omega) hS4 hC A hx16) ?_
    rintro _ _ ⟨s18, r19, rfl, rfl, hS18, f20, b21, k22, k23, k24, k25⟩
    show tt Zi d 191 (25, [some (.inr (.inl 30)), some (.inl r5)], [.inl r19, .inl (256 * r5)], n, D, s18, p, c) _
    replace k22 : (s18 3050) = 0 → ((s4 3049) < A.2 ∧ gB A ((s4 3049)) = r19) ∧ (s18 3049) = (s4 3049) + 1 ∧ (s18 3049) ≤ (s4 3014) := k22
    replace k23 : (s4 3050) = 0 → (s18 3050) ≠ 0 → A.2 ≤ (s4 3049) := k23
    replace k24 : (s4 3050) ≠ 0 → (s18 3050) ≠ 0 := k24
    replace k25 : (s4 3049) ≤ (s18 3049) := k25
    have b26 : 0 ≤ (s18 3050) ∧ (s18 3050) ≤ 8 := hS18 3050
    have b27 : 0 ≤ (s18 3049) ∧ (s18 3049) ≤ 32769 := hS18 3049
    have e28 : s18 3014 = (s4 3014) := (f20 3014 (by decide))
    have b29 : 0 ≤ (s18 3014) ∧ (s18 3014) ≤ 32768 := hS18 3014
    have hx30 : tpl A (s18 3014) (c 34) := by rw [f20 3014 (by decide)]; exact hx16
    refine tt_k 1 (S' := (26, [some (.inr (.inl 30)), some (.inl r5)], [.inl ((256 * r5) + r19)], n, D, s18, p, c)) rfl ?_
    exact tt_rti rfl rfl ⟨s18, ((256 * r5) + r19), rfl, rfl, hS18, (fr_tr (fr_tr fr_rf f6 (by decide)) f20 (by decide)), by omega, by show (s18 3050) = 0 → (s 3049 + 1 < A.2 ∧ gT A (s 3049) = ((256 * r5) + r19)) ∧ (s18 3049) = s 3049 + 2 ∧ (s18 3049) ≤ s 3014; intro hf; have h1 := k8 (by omega); have h2 := k22 hf; rw [h1.2.1] at h2; refine ⟨⟨by omega, ?_⟩, by omega⟩; unfold gT; omega, by show s 3050 = 0 → (s18 3050) ≠ 0 → A.2 ≤ s 3049 + 1; intro h0 hf; have h1 := k8 (by omega); have h2 := k23 (by omega) hf; omega, by show s 3050 ≠ 0 → (s18 3050) ≠ 0; omega, by show s 3049 ≤ (s18 3049); omega⟩
  · show tt Zi d 191 (12, [some (.inr (.inl 30)), some (.inl r5)], [], n, D, s4, p, c) _
    refine tt_k 2 (S' := (26, [some (.inr (.inl 30)), some (.inl r5)], [.inl 0], n, D, s4, p, c)) rfl ?_
    exact tt_rti rfl rfl ⟨s4, 0, rfl, rfl, hS4, (fr_tr fr_rf f6 (by decide)), by omega, by show (s4 3050) = 0 → (s 3049 + 1 < A.2 ∧ gT A (s 3049) = 0) ∧ (s4 3049) = s 3049 + 2 ∧ (s4 3049) ≤ s 3014; intro hf; exact absurd hf (by omega), by show s 3050 = 0 → (s4 3050) ≠ 0 → A.2 ≤ s 3049 + 1; intro h0 hf; have h1 := k9 h0 (by omega); omega, by show s 3050 ≠ 0 → (s4 3050) ≠ 0; omega, by show s 3049 ≤ (s4 3049); omega⟩
set_option maxRecDepth 100000 in
set_option maxHeartbeats 4000000 in
theorem v_want {Zi : Nat → Option (Nat × (Nat → Int))} {d n : Nat} {D : Nat → Nat × Nat} {s : Nat → Int} {p : Nat → Nat} {c : Nat → Nat → Int} (hd : 2 ≤ d) (hS : bS s) (hC : bC D c) (A : TN) (v : Int) (b_v : -2147483648 ≤ v ∧ v ≤ 2147483647) (hp0 : tpl A (s 3014) (c 34)) : tt Zi d 194 (0, [some (.inr (.inl 30)), some (.inl v), none], [], n, D, s, p, c) (fun R H => ∃ (s' : Nat → Int), R = .inl none ∧ H = (n, D, s', p, c) ∧ bS s' ∧ fr s s' [3049, 3050, 3051] ∧ (s' 3050 = 0 → (s 3049 < A.2 ∧ gB A (s 3049) = v) ∧ s' 3049 = s 3049 + 1 ∧ s' 3049 ≤ s 3014) ∧ (s 3050 = 0 → s' 3050 ≠ 0 → A.2 ≤ s 3049 ∨ gB A (s 3049) ≠ v) ∧ (s 3050 ≠ 0 → s' 3050 ≠ 0) ∧ (s 3049 ≤ s' 3049)) := by
  have hA := hp0.1
  have b1 : 0 ≤ (s 3049) ∧ (s 3049) ≤ 32769 := hS 3049
  have b2 : 0 ≤ (s 3014) ∧ (s 3014) ≤ 32768 := hS 3014
  have b3 : 0 ≤ (s 3050) ∧ (s 3050) ≤ 8 := hS 3050
  refine tt_k 1 (S' := (1, [some (.inr (.inl 30)), some (.inl v), none], [.inr (.inl 30)], n, D, s, p, c)) rfl ?_
  refine tt_cl (by omega) rfl (v_nextByte (Zi := Zi) (D := D) (s := s) (p := p) (c := c) (by omega) hS hC A hp0) ?_
  rintro _ _ ⟨s4, r5, rfl, rfl, hS4, f6, b7, k8, k9, k10, k11⟩
  show tt Zi d 194 (4, [some (.inr (.inl 30)), some (.inl v), none], [.inl r5], n, D, s4, p, c) _
  replace k8 : (s4 3050) = 0 → ((s 3049) < A.2 ∧ gB A ((s 3049)) = r5) ∧ (s4 3049) = (s 3049) + 1 ∧ (s4 3049) ≤ (s 3014) := k8
  replace k9 : (s 3050) = 0 → (s4 3050) ≠ 0 → A.2 ≤ (s 3049) := k9
  replace k10 : (s 3050) ≠ 0 → (s4 3050) ≠ 0 := k10
  replace k11 : (s 3049) ≤ (s4 3049) := k11
  have b12 : 0 ≤ (s4 3050) ∧ (s4 3050) ≤ 8 := hS4 3050
  have b13 : 0 ≤ (s4 3049) ∧ (s4 3049) ≤ 32769 := hS4 3049
  have e14 : s4 3014 = (s 3014) := (f6 3014 (by decide))
  have b15 : 0 ≤ (s4 3014) ∧ (s4 3014) ≤ 32768 := hS4 3014
  have hx16 : tpl A (s4 3014) (c 34) := by rw [f6 3014 (by decide)]; exact hp0
  refine tt_k 3 (S' := (9, [some (.inr (.inl 30)), some (.inl v), some (.inl r5)], [.inl (s4 3050)], n, D, s4, p, c)) rfl ?_
  refine tz_ne (x := (s4 3050)) rfl rfl (by omega) (fun h17 => ?_) (fun h17 => ?_)
  · show tt Zi d 194 (28, [some (.inr (.inl 30)), some (.inl v), some (.inl r5)], [], n, D, s4, p, c) _
    exact tt_rtv rfl rfl ⟨s4, rfl, rfl, hS4, (fr_tr fr_rf f6 (by decide)), by show (s4 3050) = 0 → (s 3049 < A.2 ∧ gB A (s 3049) = v) ∧ (s4 3049) = s 3049 + 1 ∧ (s4 3049) ≤ s 3014; intro hf; have h1 := k8 (by omega); omega, by show s 3050 = 0 → (s4 3050) ≠ 0 → A.2 ≤ s 3049 ∨ gB A (s 3049) ≠ v; intro h0 hf; have h1 := k8; have h2 := k9; omega, by show s 3050 ≠ 0 → (s4 3050) ≠ 0; omega, by show s 3049 ≤ (s4 3049); omega⟩
  · show tt Zi d 194 (12, [some (.inr (.inl 30)), some (.inl v), some (.inl r5)], [], n, D, s4, p, c) _
    refine tt_k 2 (S' := (14, [some (.inr (.inl 30)), some (.inl v), some (.inl r5)], [.inl v, .inl r5], n, D, s4, p, c)) rfl ?_
    refine tb_eq (x := r5) (y := v) rfl rfl (by omega) (fun h18 => ?_) (fun h18 => ?_)
    · show tt Zi d 194 (28, [some (.inr (.inl 30)), some (.inl v), some (.inl r5)], [], n, D, s4, p, c) _
      exact tt_rtv rfl rfl ⟨s4, rfl, rfl, hS4, (fr_tr fr_rf f6 (by decide)), by show (s4 3050) = 0 → (s 3049 < A.2 ∧ gB A (s 3049) = v) ∧ (s4 3049) = s 3049 + 1 ∧ (s4 3049) ≤ s 3014; intro hf; have h1 := k8 (by omega); omega, by show s 3050 = 0 → (s4 3050) ≠ 0 → A.2 ≤ s 3049 ∨ gB A (s 3049) ≠ v; intro h0 hf; have h1 := k8; have h2 := k9; omega, by show s 3050 ≠ 0 → (s4 3050) ≠ 0; omega, by show s 3049 ≤ (s4 3049); omega⟩
    · show tt Zi d 194 (17, [some (.inr (.inl 30)), some (.inl v), some (.inl r5)], [], n, D, s4, p, c) _
      refine tt_k 6 (S' := (25, [some (.inr (.inl 30)), some (.inl v), some (.inl r5)], [.inl ((s4 3049) - 1), .inl 5, .inr (.inl 30)], n, D, s4, p, c)) rfl ?_
      refine tt_cl (by omega) rfl (k_fail (Zi := Zi) (D := D) (s := s4) (p := p) (c := c) (by omega) hS4 hC 5 ((s4 3049) - 1) (by omega) (by omega)) ?_
      rintro _ _ ⟨s19, rfl, rfl, hS19, f20, k21, k22⟩
      show tt Zi d 194 (28, [some (.inr (.inl 30)), some (.inl v), some (.inl r5)], [], n, D, s19, p, c) _
      replace k21 : ((s4 3050) = 0 → (s19 3050) = 5 ∧ (s19 3051) = ((s4 3049) - 1)) := k21
      replace k22 : ((s4 3050) ≠ 0 → (s19 3050) = (s4 3050) ∧ (s19 3051) = (s4 3051)) := k22
      have b23 : 0 ≤ (s19 3050) ∧ (s19 3050) ≤ 8 := hS19 3050
      have b24 : -1 ≤ (s19 3051) ∧ (s19 3051) ≤ 32769 := hS19 3051
      have b25 : -1 ≤ (s4 3051) ∧ (s4 3051) ≤ 32769 := hS4 3051
      have e26 : s19 3049 = (s4 3049) := (f20 3049 (by decide))
      have b27 : 0 ≤ (s19 3049) ∧ (s19 3049) ≤ 32769 := hS19 3049
      have e28 : s19 3014 = (s4 3014) := (f20 3014 (by decide))
      have b29 : 0 ≤ (s19 3014) ∧ (s19 3014) ≤ 32768 := hS19 3014
      have hx30 : tpl A (s19 3014) (c 34) := by rw [f20 3014 (by decide)]; exact hx16
      exact tt_rtv rfl rfl ⟨s19, rfl, rfl, hS19, (fr_tr (fr_tr fr_rf f6 (by decide)) f20 (by decide)), by show (s19 3050) = 0 → (s 3049 < A.2 ∧ gB A (s 3049) = v) ∧ (s19 3049) = s 3049 + 1 ∧ (s19 3049) ≤ s 3014; intro hf; have h1 := k8 (by omega); omega, by show s 3050 = 0 → (s19 3050) ≠ 0 → A.2 ≤ s 3049 ∨ gB A (s 3049) ≠ v; intro h0 hf; have h1 := k8; have h2 := k9; omega, by show s 3050 ≠ 0 → (s19 3050) ≠ 0; omega, by show s 3049 ≤ (s19 3049); omega⟩
set_option maxRecDepth 100000 in
set_option maxHeartbeats 4000000 in
theorem v_between {Zi : Nat → Option (Nat × (Nat → Int))} {d n : Nat} {D : Nat → Nat × Nat} {s : Nat → Int} {p : Nat → Nat} {c : Nat → Nat → Int} (hd : 1 ≤ d) (hS : bS s) (hC : bC D c) (v : Int) (wh : Int) (lo : Int) (hi : Int) (b_v : 0 ≤ v ∧ v ≤ 65535) (b_wh : 0 ≤ wh ∧ wh ≤ 32769) (b_lo : -2147483648 ≤ lo ∧ lo ≤ 2147483647) (b_hi : -2147483648 ≤ hi ∧ hi ≤ 2147483647) : tt Zi d 193 (0, [some (.inr (.inl 30)), some (.inl v), some (.inl wh), some (.inl lo), some (.inl hi)], [], n, D, s, p, c) (fun R H => ∃ (s' : Nat → Int) (r : Int), R = .inl (some (.inl r)) ∧ H = (n, D, s', p, c) ∧ bS s' ∧ fr s s' [3050, 3051] ∧ (0 ≤ r ∧ r ≤ 65535) ∧ (r = v) ∧ (s 3050 ≠ 0 → s' 3050 ≠ 0) ∧ (s' 3050 = 0 → lo ≤ v ∧ v ≤ hi) ∧ (s 3050 = 0 → s' 3050 ≠ 0 → ¬ (lo ≤ v ∧ v ≤ hi))) := by
  refine tt_k 2 (S' := (4, [some (.inr (.inl 30)), some (.inl v), some (.inl wh), some (.inl lo), some (.inl hi)], [.inl (s 3050)], n, D, s, p, c)) rfl ?_
  have b1 : 0 ≤ (s 3050) ∧ (s 3050) ≤ 8 := hS 3050
  refine tz_ne (x := (s 3050)) rfl rfl (by omega) (fun h2 => ?_) (fun h2 => ?_)
  · show tt Zi d 193 (23, [some (.inr (.inl 30)), some (.inl v), some (.inl wh), some (.inl lo), some (.inl hi)], [], n, D, s, p, c) _
    refine tt_k 1 (S' := (24, [some (.inr (.inl 30)), some (.inl v), some (.inl wh), some (.inl lo), some (.inl hi)], [.inl v], n, D, s, p, c)) rfl ?_
    exact tt_rti rfl rfl ⟨s, v, rfl, rfl, hS, fr_rf, by omega, by show v = v; omega, by show s 3050 ≠ 0 → (s 3050) ≠ 0; omega, by show (s 3050) = 0 → lo ≤ v ∧ v ≤ hi; omega, by show s 3050 = 0 → (s 3050) ≠ 0 → ¬ (lo ≤ v ∧ v ≤ hi); omega⟩
  · show tt Zi d 193 (7, [some (.inr (.inl 30)), some (.inl v), some (.inl wh), some (.inl lo), some (.inl hi)], [], n, D, s, p, c) _
    refine tt_k 3 (S' := (11, [some (.inr (.inl 30)), some (.inl v), some (.inl wh), some (.inl lo), some (.inl hi)], [.inl hi, .inl lo, .inl v], n, D, s, p, c)) rfl ?_
    refine tt_cl (by omega) rfl (k_isIn (Zi := Zi) (D := D) (s := s) (p := p) (c := c) (by omega) hS hC v lo hi (by omega) (by omega) (by omega)) ?_
    rintro _ _ ⟨r3, rfl, rfl, b4, k5⟩
    show tt Zi d 193 (14, [some (.inr (.inl 30)), some (.inl v), some (.inl wh), some (.inl lo), some (.inl hi)], [.inl r3], n, D, s, p, c) _
    replace k5 : r3 = if lo ≤ v ∧ v ≤ hi then (1 : Int) else 0 := k5
    subst k5
    show tt Zi d 193 (14, [some (.inr (.inl 30)), some (.inl v), some (.inl wh), some (.inl lo), some (.inl hi)], [.inl (if lo ≤ v ∧ v ≤ hi then (1 : Int) else 0)], n, D, s, p, c) _
    refine tz_ne (x := (if lo ≤ v ∧ v ≤ hi then (1 : Int) else 0)) rfl rfl (by omega) (fun h6 => ?_) (fun h6 => ?_)
    · show tt Zi d 193 (23, [some (.inr (.inl 30)), some (.inl v), some (.inl wh), some (.inl lo), some (.inl hi)], [], n, D, s, p, c) _
      refine tt_k 1 (S' := (24, [some (.inr (.inl 30)), some (.inl v), some (.inl wh), some (.inl lo), some (.inl hi)], [.inl v], n, D, s, p, c)) rfl ?_
      exact tt_rti rfl rfl ⟨s, v, rfl, rfl, hS, fr_rf, by omega, by show v = v; omega, by show s 3050 ≠ 0 → (s 3050) ≠ 0; omega, by show (s 3050) = 0 → lo ≤ v ∧ v ≤ hi; omega, by show s 3050 = 0 → (s 3050) ≠ 0 → ¬ (lo ≤ v ∧ v ≤ hi); omega⟩
    · show tt Zi d 193 (17, [some (.inr (.inl 30)), some (.inl v), some (.inl wh), some (.inl lo), some (.inl hi)], [], n, D, s, p, c) _
      refine tt_k 3 (S' := (20, [some (.inr (.inl 30)), some (.inl v), some (.inl wh), some (.inl lo), some (.inl hi)], [.inl wh, .inl 5, .inr (.inl 30)], n, D, s, p, c)) rfl ?_
      refine tt_cl (by omega) rfl (k_fail (Zi := Zi) (D := D) (s := s) (p := p) (c := c) (by omega) hS hC 5 wh (by omega) (by omega)) ?_
      rintro _ _ ⟨s7, rfl, rfl, hS7, f8, k9, k10⟩
      show tt Zi d 193 (23, [some (.inr (.inl 30)), some (.inl v), some (.inl wh), some (.inl lo), some (.inl hi)], [], n, D, s7, p, c) _
      replace k9 : ((s 3050) = 0 → (s7 3050) = 5 ∧ (s7 3051) = wh) := k9
      replace k10 : ((s 3050) ≠ 0 → (s7 3050) = (s 3050) ∧ (s7 3051) = (s 3051)) := k10
      have b11 : 0 ≤ (s7 3050) ∧ (s7 3050) ≤ 8 := hS7 3050
      have b12 : -1 ≤ (s7 3051) ∧ (s7 3051) ≤ 32769 := hS7 3051
      have b13 : -1 ≤ (s 3051) ∧ (s 3051) ≤ 32769 := hS 3051
      refine tt_k 1 (S' := (24, [some (.inr (.inl 30)), some (.inl v), some (.inl wh), some (.inl lo), some (.inl hi)], [.inl v], n, D, s7, p, c)) rfl ?_
      exact tt_rti rfl rfl ⟨s7, v, rfl, rfl, hS7, (fr_tr fr_rf f8 (by decide)), by omega, by show v = v; omega, by show s 3050 ≠ 0 → (s7 3050) ≠ 0; omega, by show (s7 3050) = 0 → lo ≤ v ∧ v ≤ hi; omega, by show s 3050 = 0 → (s7 3050) ≠ 0 → ¬ (lo ≤ v ∧ v ≤ hi); omega⟩
set_option maxRecDepth 100000 in
set_option maxHeartbeats 4000000 in
theorem y_nextMark_L30 {Zi : Nat → Option (Nat × (Nat → Int))} {d n : Nat} {D : Nat → Nat × Nat} {s : Nat → Int} {p : Nat → Nat} {c : Nat → Nat → Int}  {Q : mi_Rs → mi_H → Prop} (hd : 2 ≤ d) (hS : bS s) (hC : bC D c) (A : TN) (R : Option (Int × Int)) (U : Int) (hq0 : tpl A (s 3014) (c 34))
  (hK : ∀ (v : Int) (s0 : Nat → Int) (b_v : 0 ≤ v ∧ v ≤ 255) (hS0 : bS s0) (hF0 : fr s s0 [3049, 3050, 3051]) (i0 : s0 3050 = 0 → mkI A R v (s0 3049)) (i1 : s0 3050 ≠ 0 → R = none) (i2 : s0 3050 = 0 → s0 3049 ≤ s 3014 ∧ U + 1 ≤ s0 3049 ∧ (v ≠ 255 → U + 2 ≤ s0 3049)) (i3 : U ≤ s0 3049), (s0 3050 ≠ 0 ∨ v ≠ 255) → tt Zi d 187 (52, [some (.inr (.inl 30)), some (.inl v)], [], n, D, s0, p, c) Q) :
  ∀ (m : Nat) (v : Int) (s0 : Nat → Int) (b_v : 0 ≤ v ∧ v ≤ 255) (hS0 : bS s0) (hF0 : fr s s0 [3049, 3050, 3051]) (i0 : s0 3050 = 0 → mkI A R v (s0 3049)) (i1 : s0 3050 ≠ 0 → R = none) (i2 : s0 3050 = 0 → s0 3049 ≤ s 3014 ∧ U + 1 ≤ s0 3049 ∧ (v ≠ 255 → U + 2 ≤ s0 3049)) (i3 : U ≤ s0 3049), (if s0 3050 = 0 then s 3014 - s0 3049 + 2 else 0).toNat < m → tt Zi d 187 (30, [some (.inr (.inl 30)), some (.inl v)], [], n, D, s0, p, c) Q := by
  intro m
  induction m with
  | zero => intro v s0 b_v hS0 hF0 i0 i1 i2 i3 hm; exact absurd hm (by omega)
  | succ m ih =>
    intro v s0 b_v hS0 hF0 i0 i1 i2 i3 hm
    have e1 : s0 3014 = s 3014 := hF0 3014 (by decide)
    have b2 : 0 ≤ (s0 3014) ∧ (s0 3014) ≤ 32768 := hS0 3014
    have b3 : 0 ≤ (s 3014) ∧ (s 3014) ≤ 32768 := hS 3014
    have htp : tpl A (s0 3014) (c 34) := by rw [hF0 3014 (by decide)]; exact hq0
    have hA := hq0.1
    have b4 : 0 ≤ (s0 3050) ∧ (s0 3050) ≤ 8 := hS0 3050
    have b5 : 0 ≤ (s0 3049) ∧ (s0 3049) ≤ 32769 := hS0 3049
    refine tt_k 2 (S' := (34, [some (.inr (.inl 30)), some (.inl v)], [.inl (s0 3050)], n, D, s0, p, c)) rfl ?_
    refine tz_ne (x := (s0 3050)) rfl rfl (by omega) (fun h6 => ?_) (fun h6 => ?_)
    · show tt Zi d 187 (52, [some (.inr (.inl 30)), some (.inl v)], [], n, D, s0, p, c) _
      exact hK v s0 (by omega) hS0 hF0 i0 i1 i2 i3 (by omega)
    · show tt Zi d 187 (37, [some (.inr (.inl 30)), some (.inl v)], [], n, D, s0, p, c) _
      refine tt_k 2 (S' := (41, [some (.inr (.inl 30)), some (.inl v)], [.inl 255, .inl v], n, D, s0, p, c)) rfl ?_
      refine tb_ne (x := v) (y := 255) rfl rfl (by omega) (fun h7 => ?_) (fun h7 => ?_)
      · show tt Zi d 187 (52, [some (.inr (.inl 30)), some (.inl v)], [], n, D, s0, p, c) _
        exact hK v s0 (by omega) hS0 hF0 i0 i1 i2 i3 (by omega)
      · show tt Zi d 187 (44, [some (.inr (.inl 30)), some (.inl v)], [], n, D, s0, p, c) _
        refine tt_k 1 (S' := (45, [some (.inr (.inl 30)), some (.inl v)], [.inr (.inl 30)], n, D, s0, p, c)) rfl ?_
        refine tt_cl (by omega) rfl (v_nextByte (Zi := Zi) (D := D) (s := s0) (p := p) (c := c) (by omega) hS0 hC A htp) ?_
        rintro _ _ ⟨s8, r9, rfl, rfl, hS8, f10, b11, k12, k13, k14, k15⟩
        show tt Zi d 187 (48, [some (.inr (.inl 30)), some (.inl v)], [.inl r9], n, D, s8, p, c) _
        replace k12 : (s8 3050) = 0 → ((s0 3049) < A.2 ∧ gB A ((s0 3049)) = r9) ∧ (s8 3049) = (s0 3049) + 1 ∧ (s8 3049) ≤ (s0 3014) := k12
        replace k13 : (s0 3050) = 0 → (s8 3050) ≠ 0 → A.2 ≤ (s0 3049) := k13
        replace k14 : (s0 3050) ≠ 0 → (s8 3050) ≠ 0 := k14
        replace k15 : (s0 3049) ≤ (s8 3049) := k15
        have b16 : 0 ≤ (s8 3050) ∧ (s8 3050) ≤ 8 := hS8 3050
        have b17 : 0 ≤ (s8 3049) ∧ (s8 3049) ≤ 32769 := hS8 3049
        have e18 : s8 3014 = (s0 3014) := (f10 3014 (by decide))
        have b19 : 0 ≤ (s8 3014) ∧ (s8 3014) ≤ 32768 := hS8 3014
        have hx20 : tpl A (s8 3014) (c 34) := by rw [f10 3014 (by decide)]; exact htp
        refine tt_k 2 (S' := (30, [some (.inr (.inl 30)), some (.inl r9)], [], n, D, s8, p, c)) rfl ?_
        exact ih r9 s8 (by omega) hS8 (fr_tr hF0 f10 (by decide)) (fun hf => by have h1 := k12 hf; have h2 := mkr_s (i0 (by omega)) (by omega) (show rdB A (s0 3049) = some r9 by unfold rdB; rw [if_pos h1.1.1, ← h1.1.2]; rfl) h1.1.1; rw [← h1.2.1] at h2; exact h2) (fun hf => mkr_n (i0 (by omega)) (by omega) (by unfold rdB; rw [if_neg (by have h1 := k13 (by omega) hf; omega)])) (show (s8 3050) = 0 → (s8 3049) ≤ s 3014 ∧ U + 1 ≤ (s8 3049) ∧ (r9 ≠ 255 → U + 2 ≤ (s8 3049)) by omega) (show U ≤ (s8 3049) by omega) (show (if (s8 3050) = 0 then s 3014 - (s8 3049) + 2 else 0).toNat < m by omega)
set_option maxRecDepth 100000 in
set_option maxHeartbeats 4000000 in
theorem y_nextMark {Zi : Nat → Option (Nat × (Nat → Int))} {d n : Nat} {D : Nat → Nat × Nat} {s : Nat → Int} {p : Nat → Nat} {c : Nat → Nat → Int} (hd : 2 ≤ d) (hS : bS s) (hC : bC D c) (A : TN) (hp0 : tpl A (s 3014) (c 34)) (hp1 : s 3050 = 0) : tt Zi d 187 (0, [some (.inr (.inl 30)), none], [], n, D, s, p, c) (fun R H => ∃ (s' : Nat → Int) (r : Int), R = .inl (some (.inl r)) ∧ H = (n, D, s', p, c) ∧ bS s' ∧ fr s s' [3049, 3050, 3051] ∧ (0 ≤ r ∧ r ≤ 255) ∧ (s' 3050 = 0 → (rdMk A (s 3049)) = some (r, s' 3049)) ∧ (s' 3050 ≠ 0 → (rdMk A (s 3049)) = none) ∧ (s' 3050 = 0 → s 3049 + 2 ≤ s' 3049 ∧ s' 3049 ≤ s 3014) ∧ (s 3049 ≤ s' 3049)) := by
  have hA := hp0.1
  have b1 : 0 ≤ (s 3049) ∧ (s 3049) ≤ 32769 := hS 3049
  have b2 : 0 ≤ (s 3014) ∧ (s 3014) ≤ 32768 := hS 3014
  have b3 : 0 ≤ (s 3050) ∧ (s 3050) ≤ 8 := hS 3050
  refine tt_k 1 (S' := (1, [some (.inr (.inl 30)), none], [.inr (.inl 30)], n, D, s, p, c)) rfl ?_
  refine tt_cl (by omega) rfl (v_nextByte (Zi := Zi) (D := D) (s := s) (p := p) (c := c) (by omega) hS hC A hp0) ?_
  rintro _ _ ⟨s4, r5, rfl, rfl, hS4, f6, b7, k8, k9, k10, k11⟩
  show tt Zi d 187 (4, [some (.inr (.inl 30)), none], [.inl r5], n, D, s4, p, c) _
  replace k8 : (s4 3050) = 0 → ((s 3049) < A.2 ∧ gB A ((s 3049)) = r5) ∧ (s4 3049) = (s 3049) + 1 ∧ (s4 3049) ≤ (s 3014) := k8
  replace k9 : (s 3050) = 0 → (s4 3050) ≠ 0 → A.2 ≤ (s 3049) := k9
  replace k10 : (s 3050) ≠ 0 → (s4 3050) ≠ 0 := k10
  replace k11 : (s 3049) ≤ (s4 3049) := k11
  have b12 : 0 ≤ (s4 3050) ∧ (s4 3050) ≤ 8 := hS4 3050
  have b13 : 0 ≤ (s4 3049) ∧ (s4 3049) ≤ 32769 := hS4 3049
  have e14 : s4 3014 = (s 3014) := (f6 3014 (by decide))
  have b15 : 0 ≤ (s4 3014) ∧ (s4 3014) ≤ 32768 := hS4 3014
  have hx16 : tpl A (s4 3014) (c 34) := by rw [f6 3014 (by decide)]; exact hp0
  by_cases hf1 : s4 3050 = 0
  · skip
    have hb1 := k8 hf1
    have hrb : rdB A (s 3049) = some r5 := by unfold rdB; rw [if_pos hb1.1.1, ← hb1.1.2]; rfl
    refine tt_k 3 (S' := (9, [some (.inr (.inl 30)), some (.inl r5)], [.inl (s4 3050)], n, D, s4, p, c)) rfl ?_
    refine tz_ne (x := (s4 3050)) rfl rfl (by omega) (fun h17 => ?_) (fun h17 => ?_)
    · exfalso; omega
    · show tt Zi d 187 (12, [some (.inr (.inl 30)), some (.inl r5)], [], n, D, s4, p, c) _
      refine tt_k 2 (S' := (16, [some (.inr (.inl 30)), some (.inl r5)], [.inl 255, .inl r5], n, D, s4, p, c)) rfl ?_
      refine tb_eq (x := r5) (y := 255) rfl rfl (by omega) (fun h18 => ?_) (fun h18 => ?_)
      · show tt Zi d 187 (30, [some (.inr (.inl 30)), some (.inl r5)], [], n, D, s4, p, c) _
        refine y_nextMark_L30 (Zi := Zi) (D := D) (s := s4) (p := p) (c := c) hd hS4 hC A (rdMk A (s 3049)) (s 3049)  hx16 ?_ _ r5 s4 (by omega) hS4 fr_rf (fun _ => by have h := mkr_0 (show rdB A (s 3049) = some 255 by rw [hrb, show r5 = 255 by omega]) (by omega); rw [← show s4 3049 = s 3049 + 1 by omega, show (255 : Int) = r5 by omega] at h; exact h) (fun h => absurd h (by omega)) (show (s4 3050) = 0 → (s4 3049) ≤ (s4 3014) ∧ (s 3049) + 1 ≤ (s4 3049) ∧ (r5 ≠ 255 → (s 3049) + 2 ≤ (s4 3049)) by omega) (show (s 3049) ≤ (s4 3049) by omega) (Nat.lt_succ_self _)
        intro x19 s20 b21 hS20 f22 i23 i24 i25 i26 hx27
        show tt Zi d 187 (52, [some (.inr (.inl 30)), some (.inl x19)], [], n, D, s20, p, c) _
        have e28 : s20 3014 = (s4 3014) := (f22 3014 (by decide))
        have b29 : 0 ≤ (s20 3014) ∧ (s20 3014) ≤ 32768 := hS20 3014
        have hx30 : tpl A (s20 3014) (c 34) := by rw [f22 3014 (by decide)]; exact hx16
        refine tt_k 1 (S' := (53, [some (.inr (.inl 30)), some (.inl x19)], [.inl x19], n, D, s20, p, c)) rfl ?_
        exact tt_rti rfl rfl ⟨s20, x19, rfl, rfl, hS20, (fr_tr (fr_tr fr_rf f6 (by decide)) f22 (by decide)), by omega, by show (s20 3050) = 0 → (rdMk A (s 3049)) = some (x19, (s20 3049)); intro hf; exact (mkr_e (i23 hf) (by omega)).symm, by show (s20 3050) ≠ 0 → (rdMk A (s 3049)) = none; intro hf; exact i24 hf, by show (s20 3050) = 0 → s 3049 + 2 ≤ (s20 3049) ∧ (s20 3049) ≤ s 3014; intro hf; omega, by show s 3049 ≤ (s20 3049); omega⟩
      · show tt Zi d 187 (19, [some (.inr (.inl 30)), some (.inl r5)], [], n, D, s4, p, c) _
        refine tt_k 6 (S' := (27, [some (.inr (.inl 30)), some (.inl r5)], [.inl ((s4 3049) - 1), .inl 2, .inr (.inl 30)], n, D, s4, p, c)) rfl ?_
        refine tt_cl (by omega) rfl (k_fail (Zi := Zi) (D := D) (s := s4) (p := p) (c := c) (by omega) hS4 hC 2 ((s4 3049) - 1) (by omega) (by omega)) ?_
        rintro _ _ ⟨s31, rfl, rfl, hS31, f32, k33, k34⟩
        show tt Zi d 187 (30, [some (.inr (.inl 30)), some (.inl r5)], [], n, D, s31, p, c) _
        replace k33 : ((s4 3050) = 0 → (s31 3050) = 2 ∧ (s31 3051) = ((s4 3049) - 1)) := k33
        replace k34 : ((s4 3050) ≠ 0 → (s31 3050) = (s4 3050) ∧ (s31 3051) = (s4 3051)) := k34
        have b35 : 0 ≤ (s31 3050) ∧ (s31 3050) ≤ 8 := hS31 3050
        have b36 : -1 ≤ (s31 3051) ∧ (s31 3051) ≤ 32769 := hS31 3051
        have b37 : -1 ≤ (s4 3051) ∧ (s4 3051) ≤ 32769 := hS4 3051
        have e38 : s31 3049 = (s4 3049) := (f32 3049 (by decide))
        have b39 : 0 ≤ (s31 3049) ∧ (s31 3049) ≤ 32769 := hS31 3049
        have e40 : s31 3014 = (s4 3014) := (f32 3014 (by decide))
        have b41 : 0 ≤ (s31 3014) ∧ (s31 3014) ≤ 32768 := hS31 3014
        have hx42 : tpl A (s31 3014) (c 34) := by rw [f32 3014 (by decide)]; exact hx16
        have hff : s31 3050 ≠ 0 := by have h := k33 (by omega); omega
        have hno : (rdMk A (s 3049)) = none := by unfold rdMk; rw [hrb, bd_s, if_neg (by omega)]
        refine y_nextMark_L30 (Zi := Zi) (D := D) (s := s31) (p := p) (c := c) hd hS31 hC A (rdMk A (s 3049)) (s 3049)  hx42 ?_ _ r5 s31 (by omega) hS31 fr_rf (fun h => absurd h (by omega)) (fun _ => hno) (fun h => absurd h (by omega)) (show (s 3049) ≤ (s31 3049) by omega) (Nat.lt_succ_self _)
        intro x43 s44 b45 hS44 f46 i47 i48 i49 i50 hx51
        show tt Zi d 187 (52, [some (.inr (.inl 30)), some (.inl x43)], [], n, D, s44, p, c) _
        have e52 : s44 3014 = (s31 3014) := (f46 3014 (by decide))
        have b53 : 0 ≤ (s44 3014) ∧ (s44 3014) ≤ 32768 := hS44 3014
        have hx54 : tpl A (s44 3014) (c 34) := by rw [f46 3014 (by decide)]; exact hx42
        refine tt_k 1 (S' := (53, [some (.inr (.inl 30)), some (.inl x43)], [.inl x43], n, D, s44, p, c)) rfl ?_
        exact tt_rti rfl rfl ⟨s44, x43, rfl, rfl, hS44, (fr_tr (fr_tr (fr_tr fr_rf f6 (by decide)) f32 (by decide)) f46 (by decide)), by omega, by show (s44 3050) = 0 → (rdMk A (s 3049)) = some (x43, (s44 3049)); intro hf; exact (mkr_e (i47 hf) (by omega)).symm, by show (s44 3050) ≠ 0 → (rdMk A (s 3049)) = none; intro hf; exact i48 hf, by show (s44 3050) = 0 → s 3049 + 2 ≤ (s44 3049) ∧ (s44 3049) ≤ s 3014; intro hf; omega, by show s 3049 ≤ (s44 3049); omega⟩
  · skip
    have hno : (rdMk A (s 3049)) = none := rdMk_e (k9 (by omega) hf1)
    refine tt_k 3 (S' := (9, [some (.inr (.inl 30)), some (.inl r5)], [.inl (s4 3050)], n, D, s4, p, c)) rfl ?_
    refine tz_ne (x := (s4 3050)) rfl rfl (by omega) (fun h55 => ?_) (fun h55 => ?_)
    · show tt Zi d 187 (30, [some (.inr (.inl 30)), some (.inl r5)], [], n, D, s4, p, c) _
      refine y_nextMark_L30 (Zi := Zi) (D := D) (s := s4) (p := p) (c := c) hd hS4 hC A (rdMk A (s 3049)) (s 3049)  hx16 ?_ _ r5 s4 (by omega) hS4 fr_rf (fun h => absurd h (by omega)) (fun _ => hno) (fun h => absurd h (by omega)) (show (s 3049) ≤ (s4 3049) by omega) (Nat.lt_succ_self _)
      intro x56 s57 b58 hS57 f59 i60 i61 i62 i63 hx64
      show tt Zi d 187 (52, [some (.inr (.inl 30)), some (.inl x56)], [], n, D, s57, p, c) _
      have e65 : s57 3014 = (s4 3014) := (f59 3014 (by decide))
      have b66 : 0 ≤ (s57 3014) ∧ (s57 3014) ≤ 32768 := hS57 3014
      have hx67 : tpl A (s57 3014) (c 34) := by rw [f59 3014 (by decide)]; exact hx16
      refine tt_k 1 (S' := (53, [some (.inr (.inl 30)), some (.inl x56)], [.inl x56], n, D, s57, p, c)) rfl ?_
      exact tt_rti rfl rfl ⟨s57, x56, rfl, rfl, hS57, (fr_tr (fr_tr fr_rf f6 (by decide)) f59 (by decide)), by omega, by show (s57 3050) = 0 → (rdMk A (s 3049)) = some (x56, (s57 3049)); intro hf; exact (mkr_e (i60 hf) (by omega)).symm, by show (s57 3050) ≠ 0 → (rdMk A (s 3049)) = none; intro hf; exact i61 hf, by show (s57 3050) = 0 → s 3049 + 2 ≤ (s57 3049) ∧ (s57 3049) ≤ s 3014; intro hf; omega, by show s 3049 ≤ (s57 3049); omega⟩
    · exfalso; omega
set_option maxRecDepth 100000 in
set_option maxHeartbeats 4000000 in
theorem v_comes {Zi : Nat → Option (Nat × (Nat → Int))} {d n : Nat} {D : Nat → Nat × Nat} {s : Nat → Int} {p : Nat → Nat} {c : Nat → Nat → Int} (hd : 1 ≤ d) (hS : bS s) (hC : bC D c) (v : Int) (b_v : 0 ≤ v ∧ v ≤ 255) : tt Zi d 189 (0, [some (.inr (.inl 30)), some (.inl v)], [], n, D, s, p, c) (fun R H => ∃ (r : Int), R = .inl (some (.inl r)) ∧ H = (n, D, s, p, c) ∧ (0 ≤ r ∧ r ≤ 1) ∧ (r = 1 ↔ ((v = 247 ∧ s 3059 = 0) ∨ (v = 218 ∧ 0 < s 3059 ∧ s 3061 < s 3059) ∨ (v = 217 ∧ 0 < s 3059 ∧ s 3061 = s 3059) ∨ ((v ≠ 247 ∧ v ≠ 218 ∧ v ≠ 217) ∧ (v = 248 ∨ v = 254 ∨ (224 ≤ v ∧ v ≤ 239)))))) := by
  have b1 : 0 ≤ (s 3059) ∧ (s 3059) ≤ 3 := hS 3059
  have b2 : 0 ≤ (s 3061) ∧ (s 3061) ≤ 3 := hS 3061
  refine tt_k 1 (S' := (1, [some (.inr (.inl 30)), some (.inl v)], [.inl v], n, D, s, p, c)) rfl ?_
  by_cases h3 : v = 217
  · have h4 := h3
    refine tt_lsw (x := v) (off := 72) rfl (by omega) (by decide) (by rw [h3]; rfl) rfl ?_
    show tt Zi d 189 (73, [some (.inr (.inl 30)), some (.inl v)], [], n, D, s, p, c) _
    refine tt_k 2 (S' := (77, [some (.inr (.inl 30)), some (.inl v)], [.inl (s 3059)], n, D, s, p, c)) rfl ?_
    refine tz_le (x := (s 3059)) rfl rfl (by omega) (fun h5 => ?_) (fun h5 => ?_)
    · show tt Zi d 189 (95, [some (.inr (.inl 30)), some (.inl v)], [], n, D, s, p, c) _
      refine tt_k 1 (S' := (96, [some (.inr (.inl 30)), some (.inl v)], [.inl 0], n, D, s, p, c)) rfl ?_
      exact tt_rtb rfl rfl (by omega) ⟨0, rfl, rfl, by omega, by show 0 = 1 ↔ ((v = 247 ∧ s 3059 = 0) ∨ (v = 218 ∧ 0 < s 3059 ∧ s 3061 < s 3059) ∨ (v = 217 ∧ 0 < s 3059 ∧ s 3061 = s 3059) ∨ ((v ≠ 247 ∧ v ≠ 218 ∧ v ≠ 217) ∧ (v = 248 ∨ v = 254 ∨ (224 ≤ v ∧ v ≤ 239)))); omega⟩
    · show tt Zi d 189 (80, [some (.inr (.inl 30)), some (.inl v)], [], n, D, s, p, c) _
      refine tt_k 4 (S' := (88, [some (.inr (.inl 30)), some (.inl v)], [.inl (s 3059), .inl (s 3061)], n, D, s, p, c)) rfl ?_
      refine tb_ne (x := (s 3061)) (y := (s 3059)) rfl rfl (by omega) (fun h6 => ?_) (fun h6 => ?_)
      · show tt Zi d 189 (95, [some (.inr (.inl 30)), some (.inl v)], [], n, D, s, p, c) _
        refine tt_k 1 (S' := (96, [some (.inr (.inl 30)), some (.inl v)], [.inl 0], n, D, s, p, c)) rfl ?_
        exact tt_rtb rfl rfl (by omega) ⟨0, rfl, rfl, by omega, by show 0 = 1 ↔ ((v = 247 ∧ s 3059 = 0) ∨ (v = 218 ∧ 0 < s 3059 ∧ s 3061 < s 3059) ∨ (v = 217 ∧ 0 < s 3059 ∧ s 3061 = s 3059) ∨ ((v ≠ 247 ∧ v ≠ 218 ∧ v ≠ 217) ∧ (v = 248 ∨ v = 254 ∨ (224 ≤ v ∧ v ≤ 239)))); omega⟩
      · show tt Zi d 189 (91, [some (.inr (.inl 30)), some (.inl v)], [], n, D, s, p, c) _
        refine tt_k 2 (S' := (96, [some (.inr (.inl 30)), some (.inl v)], [.inl 1], n, D, s, p, c)) rfl ?_
        exact tt_rtb rfl rfl (by omega) ⟨1, rfl, rfl, by omega, by show 1 = 1 ↔ ((v = 247 ∧ s 3059 = 0) ∨ (v = 218 ∧ 0 < s 3059 ∧ s 3061 < s 3059) ∨ (v = 217 ∧ 0 < s 3059 ∧ s 3061 = s 3059) ∨ ((v ≠ 247 ∧ v ≠ 218 ∧ v ≠ 217) ∧ (v = 248 ∨ v = 254 ∨ (224 ≤ v ∧ v ≤ 239)))); omega⟩
  by_cases h7 : v = 218
  · have h8 := h7
    refine tt_lsw (x := v) (off := 48) rfl (by omega) (by decide) (by rw [h7]; rfl) rfl ?_
    show tt Zi d 189 (49, [some (.inr (.inl 30)), some (.inl v)], [], n, D, s, p, c) _
    refine tt_k 2 (S' := (53, [some (.inr (.inl 30)), some (.inl v)], [.inl (s 3059)], n, D, s, p, c)) rfl ?_
    refine tz_le (x := (s 3059)) rfl rfl (by omega) (fun h9 => ?_) (fun h9 => ?_)
    · show tt Zi d 189 (71, [some (.inr (.inl 30)), some (.inl v)], [], n, D, s, p, c) _
      refine tt_k 1 (S' := (72, [some (.inr (.inl 30)), some (.inl v)], [.inl 0], n, D, s, p, c)) rfl ?_
      exact tt_rtb rfl rfl (by omega) ⟨0, rfl, rfl, by omega, by show 0 = 1 ↔ ((v = 247 ∧ s 3059 = 0) ∨ (v = 218 ∧ 0 < s 3059 ∧ s 3061 < s 3059) ∨ (v = 217 ∧ 0 < s 3059 ∧ s 3061 = s 3059) ∨ ((v ≠ 247 ∧ v ≠ 218 ∧ v ≠ 217) ∧ (v = 248 ∨ v = 254 ∨ (224 ≤ v ∧ v ≤ 239)))); omega⟩
    · show tt Zi d 189 (56, [some (.inr (.inl 30)), some (.inl v)], [], n, D, s, p, c) _
      refine tt_k 4 (S' := (64, [some (.inr (.inl 30)), some (.inl v)], [.inl (s 3059), .inl (s 3061)], n, D, s, p, c)) rfl ?_
      refine tb_ge (x := (s 3061)) (y := (s 3059)) rfl rfl (by omega) (fun h10 => ?_) (fun h10 => ?_)
      · show tt Zi d 189 (71, [some (.inr (.inl 30)), some (.inl v)], [], n, D, s, p, c) _
        refine tt_k 1 (S' := (72, [some (.inr (.inl 30)), some (.inl v)], [.inl 0], n, D, s, p, c)) rfl ?_
        exact tt_rtb rfl rfl (by omega) ⟨0, rfl, rfl, by omega, by show 0 = 1 ↔ ((v = 247 ∧ s 3059 = 0) ∨ (v = 218 ∧ 0 < s 3059 ∧ s 3061 < s 3059) ∨ (v = 217 ∧ 0 < s 3059 ∧ s 3061 = s 3059) ∨ ((v ≠ 247 ∧ v ≠ 218 ∧ v ≠ 217) ∧ (v = 248 ∨ v = 254 ∨ (224 ≤ v ∧ v ≤ 239)))); omega⟩
      · show tt Zi d 189 (67, [some (.inr (.inl 30)), some (.inl v)], [], n, D, s, p, c) _
        refine tt_k 2 (S' := (72, [some (.inr (.inl 30)), some (.inl v)], [.inl 1], n, D, s, p, c)) rfl ?_
        exact tt_rtb rfl rfl (by omega) ⟨1, rfl, rfl, by omega, by show 1 = 1 ↔ ((v = 247 ∧ s 3059 = 0) ∨ (v = 218 ∧ 0 < s 3059 ∧ s 3061 < s 3059) ∨ (v = 217 ∧ 0 < s 3059 ∧ s 3061 = s 3059) ∨ ((v ≠ 247 ∧ v ≠ 218 ∧ v ≠ 217) ∧ (v = 248 ∨ v = 254 ∨ (224 ≤ v ∧ v ≤ 239)))); omega⟩
  by_cases h11 : v = 247
  · have h12 := h11
    refine tt_lsw (x := v) (off := 35) rfl (by omega) (by decide) (by rw [h11]; rfl) rfl ?_
    show tt Zi d 189 (36, [some (.inr (.inl 30)), some (.inl v)], [], n, D, s, p, c) _
    refine tt_k 2 (S' := (40, [some (.inr (.inl 30)), some (.inl v)], [.inl (s 3059)], n, D, s, p, c)) rfl ?_
    refine tz_ne (x := (s 3059)) rfl rfl (by omega) (fun h13 => ?_) (fun h13 => ?_)
    · show tt Zi d 189 (47, [some (.inr (.inl 30)), some (.inl v)], [], n, D, s, p, c) _
      refine tt_k 1 (S' := (48, [some (.inr (.inl 30)), some (.inl v)], [.inl 0], n, D, s, p, c)) rfl ?_
      exact tt_rtb rfl rfl (by omega) ⟨0, rfl, rfl, by omega, by show 0 = 1 ↔ ((v = 247 ∧ s 3059 = 0) ∨ (v = 218 ∧ 0 < s 3059 ∧ s 3061 < s 3059) ∨ (v = 217 ∧ 0 < s 3059 ∧ s 3061 = s 3059) ∨ ((v ≠ 247 ∧ v ≠ 218 ∧ v ≠ 217) ∧ (v = 248 ∨ v = 254 ∨ (224 ≤ v ∧ v ≤ 239)))); omega⟩
    · show tt Zi d 189 (43, [some (.inr (.inl 30)), some (.inl v)], [], n, D, s, p, c) _
      refine tt_k 2 (S' := (48, [some (.inr (.inl 30)), some (.inl v)], [.inl 1], n, D, s, p, c)) rfl ?_
      exact tt_rtb rfl rfl (by omega) ⟨1, rfl, rfl, by omega, by show 1 = 1 ↔ ((v = 247 ∧ s 3059 = 0) ∨ (v = 218 ∧ 0 < s 3059 ∧ s 3061 < s 3059) ∨ (v = 217 ∧ 0 < s 3059 ∧ s 3061 = s 3059) ∨ ((v ≠ 247 ∧ v ≠ 218 ∧ v ≠ 217) ∧ (v = 248 ∨ v = 254 ∨ (224 ≤ v ∧ v ≤ 239)))); omega⟩
  refine tt_lsw (x := v) (off := 96) rfl (by omega) (by decide) (lsw_d h3 h7 h11) rfl ?_
  show tt Zi d 189 (97, [some (.inr (.inl 30)), some (.inl v)], [], n, D, s, p, c) _
  refine tt_k 2 (S' := (101, [some (.inr (.inl 30)), some (.inl v)], [.inl 248, .inl v], n, D, s, p, c)) rfl ?_
  refine tb_eq (x := v) (y := 248) rfl rfl (by omega) (fun h14 => ?_) (fun h14 => ?_)
  · show tt Zi d 189 (124, [some (.inr (.inl 30)), some (.inl v)], [], n, D, s, p, c) _
    refine tt_k 2 (S' := (129, [some (.inr (.inl 30)), some (.inl v)], [.inl 1], n, D, s, p, c)) rfl ?_
    exact tt_rtb rfl rfl (by omega) ⟨1, rfl, rfl, by omega, by show 1 = 1 ↔ ((v = 247 ∧ s 3059 = 0) ∨ (v = 218 ∧ 0 < s 3059 ∧ s 3061 < s 3059) ∨ (v = 217 ∧ 0 < s 3059 ∧ s 3061 = s 3059) ∨ ((v ≠ 247 ∧ v ≠ 218 ∧ v ≠ 217) ∧ (v = 248 ∨ v = 254 ∨ (224 ≤ v ∧ v ≤ 239)))); omega⟩
  · show tt Zi d 189 (104, [some (.inr (.inl 30)), some (.inl v)], [], n, D, s, p, c) _
    refine tt_k 2 (S' := (108, [some (.inr (.inl 30)), some (.inl v)], [.inl 254, .inl v], n, D, s, p, c)) rfl ?_
    refine tb_eq (x := v) (y := 254) rfl rfl (by omega) (fun h15 => ?_) (fun h15 => ?_)
    · show tt Zi d 189 (124, [some (.inr (.inl 30)), some (.inl v)], [], n, D, s, p, c) _
      refine tt_k 2 (S' := (129, [some (.inr (.inl 30)), some (.inl v)], [.inl 1], n, D, s, p, c)) rfl ?_
      exact tt_rtb rfl rfl (by omega) ⟨1, rfl, rfl, by omega, by show 1 = 1 ↔ ((v = 247 ∧ s 3059 = 0) ∨ (v = 218 ∧ 0 < s 3059 ∧ s 3061 < s 3059) ∨ (v = 217 ∧ 0 < s 3059 ∧ s 3061 = s 3059) ∨ ((v ≠ 247 ∧ v ≠ 218 ∧ v ≠ 217) ∧ (v = 248 ∨ v = 254 ∨ (224 ≤ v ∧ v ≤ 239)))); omega⟩
    · show tt Zi d 189 (111, [some (.inr (.inl 30)), some (.inl v)], [], n, D, s, p, c) _
      refine tt_k 3 (S' := (118, [some (.inr (.inl 30)), some (.inl v)], [.inl 239, .inl 224, .inl v], n, D, s, p, c)) rfl ?_
      refine tt_cl (by omega) rfl (k_isIn (Zi := Zi) (D := D) (s := s) (p := p) (c := c) (by omega) hS hC v 224 239 (by omega) (by omega) (by omega)) ?_
      rintro _ _ ⟨r16, rfl, rfl, b17, k18⟩
      show tt Zi d 189 (121, [some (.inr (.inl 30)), some (.inl v)], [.inl r16], n, D, s, p, c) _
      replace k18 : r16 = if 224 ≤ v ∧ v ≤ 239 then (1 : Int) else 0 := k18
      subst k18
      show tt Zi d 189 (121, [some (.inr (.inl 30)), some (.inl v)], [.inl (if 224 ≤ v ∧ v ≤ 239 then (1 : Int) else 0)], n, D, s, p, c) _
      refine tz_eq (x := (if 224 ≤ v ∧ v ≤ 239 then (1 : Int) else 0)) rfl rfl (by omega) (fun h19 => ?_) (fun h19 => ?_)
      · show tt Zi d 189 (128, [some (.inr (.inl 30)), some (.inl v)], [], n, D, s, p, c) _
        refine tt_k 1 (S' := (129, [some (.inr (.inl 30)), some (.inl v)], [.inl 0], n, D, s, p, c)) rfl ?_
        exact tt_rtb rfl rfl (by omega) ⟨0, rfl, rfl, by omega, by show 0 = 1 ↔ ((v = 247 ∧ s 3059 = 0) ∨ (v = 218 ∧ 0 < s 3059 ∧ s 3061 < s 3059) ∨ (v = 217 ∧ 0 < s 3059 ∧ s 3061 = s 3059) ∨ ((v ≠ 247 ∧ v ≠ 218 ∧ v ≠ 217) ∧ (v = 248 ∨ v = 254 ∨ (224 ≤ v ∧ v ≤ 239)))); omega⟩
      · show tt Zi d 189 (124, [some (.inr (.inl 30)), some (.inl v)], [], n, D, s, p, c) _
        refine tt_k 2 (S' := (129, [some (.inr (.inl 30)), some (.inl v)], [.inl 1], n, D, s, p, c)) rfl ?_
        exact tt_rtb rfl rfl (by omega) ⟨1, rfl, rfl, by omega, by show 1 = 1 ↔ ((v = 247 ∧ s 3059 = 0) ∨ (v = 218 ∧ 0 < s 3059 ∧ s 3061 < s 3059) ∨ (v = 217 ∧ 0 < s 3059 ∧ s 3061 = s 3059) ∨ ((v ≠ 247 ∧ v ≠ 218 ∧ v ≠ 217) ∧ (v = 248 ∨ v = 254 ∨ (224 ≤ v ∧ v ≤ 239)))); omega⟩
set_option maxRecDepth 100000 in
set_option maxHeartbeats 4000000 in
theorem v_readMeasures_L7 {Zi : Nat → Option (Nat × (Nat → Int))} {d n : Nat} {D : Nat → Nat × Nat} {s : Nat → Int} {p : Nat → Nat} {c : Nat → Nat → Int}  {Q : mi_Rs → mi_H → Prop} (hd : 3 ≤ d) (hS : bS s) (hC : bC D c) (A : TN) (aa : Int) (hq0 : tpl A (s 3014) (c 34)) (hq1 : 0 ≤ aa)
  (hK : ∀ (k_ : Int) (s0 : Nat → Int) (c0 : Nat → Nat → Int) (b_k_ : 0 ≤ k_ ∧ k_ ≤ 5) (hS0 : bS s0) (hF0 : fr s s0 [3049, 3050, 3051]) (hC0 : bC D c0) (hG0 : frc c c0 [46]) (i0 : s0 3050 = 0 → s0 3049 = aa + 3 + 2 * k_ ∧ s0 3049 ≤ s 3014) (i1 : s0 3050 ≠ 0 → ¬ okM A aa) (i2 : s0 3050 = 0 → ∀ j : Nat, (j : Int) < k_ → c0 46 j = qM A aa j) (i3 : aa + 2 ≤ s0 3049) (i4 : s 3050 ≠ 0 → s0 3050 ≠ 0), (s0 3050 ≠ 0 ∨ 5 ≤ k_) → tt Zi d 195 (35, [some (.inr (.inl 30)), some (.inl k_)], [], n, D, s0, p, c0) Q) :
  ∀ (m : Nat) (k_ : Int) (s0 : Nat → Int) (c0 : Nat → Nat → Int) (b_k_ : 0 ≤ k_ ∧ k_ ≤ 5) (hS0 : bS s0) (hF0 : fr s s0 [3049, 3050, 3051]) (hC0 : bC D c0) (hG0 : frc c c0 [46]) (i0 : s0 3050 = 0 → s0 3049 = aa + 3 + 2 * k_ ∧ s0 3049 ≤ s 3014) (i1 : s0 3050 ≠ 0 → ¬ okM A aa) (i2 : s0 3050 = 0 → ∀ j : Nat, (j : Int) < k_ → c0 46 j = qM A aa j) (i3 : aa + 2 ≤ s0 3049) (i4 : s 3050 ≠ 0 → s0 3050 ≠ 0), (5 - k_).toNat < m → tt Zi d 195 (7, [some (.inr (.inl 30)), some (.inl k_)], [], n, D, s0, p, c0) Q := by
  intro m
  induction m with
  | zero => intro k_ s0 c0 b_k_ hS0 hF0 hC0 hG0 i0 i1 i2 i3 i4 hm; exact absurd hm (by omega)
  | succ m ih =>
    intro k_ s0 c0 b_k_ hS0 hF0 hC0 hG0 i0 i1 i2 i3 i4 hm
    have e1 : s0 3014 = s 3014 := hF0 3014 (by decide)
    have b2 : 0 ≤ (s0 3014) ∧ (s0 3014) ≤ 32768 := hS0 3014
    have b3 : 0 ≤ (s 3014) ∧ (s 3014) ≤ 32768 := hS 3014
    have htp : tpl A (s0 3014) (c0 34) := by rw [hF0 3014 (by decide), hG0 34 (by decide)]; exact hq0
    have hA := hq0.1
    have b4 : 0 ≤ (s0 3050) ∧ (s0 3050) ≤ 8 := hS0 3050
    have b5 : 0 ≤ (s0 3049) ∧ (s0 3049) ≤ 32769 := hS0 3049
    refine tt_k 2 (S' := (9, [some (.inr (.inl 30)), some (.inl k_)], [.inl 5, .inl k_], n, D, s0, p, c0)) rfl ?_
    refine tb_ge (x := k_) (y := 5) rfl rfl (by omega) (fun h6 => ?_) (fun h6 => ?_)
    · show tt Zi d 195 (35, [some (.inr (.inl 30)), some (.inl k_)], [], n, D, s0, p, c0) _
      exact hK k_ s0 c0 (by omega) hS0 hF0 hC0 hG0 i0 i1 i2 i3 i4 (by omega)
    · show tt Zi d 195 (12, [some (.inr (.inl 30)), some (.inl k_)], [], n, D, s0, p, c0) _
      refine tt_k 2 (S' := (16, [some (.inr (.inl 30)), some (.inl k_)], [.inl (s0 3050)], n, D, s0, p, c0)) rfl ?_
      refine tz_ne (x := (s0 3050)) rfl rfl (by omega) (fun h7 => ?_) (fun h7 => ?_)
      · show tt Zi d 195 (35, [some (.inr (.inl 30)), some (.inl k_)], [], n, D, s0, p, c0) _
        exact hK k_ s0 c0 (by omega) hS0 hF0 hC0 hG0 i0 i1 i2 i3 i4 (by omega)
      · show tt Zi d 195 (19, [some (.inr (.inl 30)), some (.inl k_)], [], n, D, s0, p, c0) _
        refine tt_k 4 (S' := (25, [some (.inr (.inl 30)), some (.inl k_)], [.inr (.inl 30), .inl k_, .inr (.inl 46)], n, D, s0, p, c0)) rfl ?_
        refine tt_cl (by omega) rfl (v_nextTwo (Zi := Zi) (D := D) (s := s0) (p := p) (c := c0) (by omega) hS0 hC0 A htp) ?_
        rintro _ _ ⟨s8, r9, rfl, rfl, hS8, f10, b11, k12, k13, k14, k15⟩
        show tt Zi d 195 (28, [some (.inr (.inl 30)), some (.inl k_)], [.inl r9, .inl k_, .inr (.inl 46)], n, D, s8, p, c0) _
        replace k12 : (s8 3050) = 0 → ((s0 3049) + 1 < A.2 ∧ gT A ((s0 3049)) = r9) ∧ (s8 3049) = (s0 3049) + 2 ∧ (s8 3049) ≤ (s0 3014) := k12
        replace k13 : (s0 3050) = 0 → (s8 3050) ≠ 0 → A.2 ≤ (s0 3049) + 1 := k13
        replace k14 : (s0 3050) ≠ 0 → (s8 3050) ≠ 0 := k14
        replace k15 : (s0 3049) ≤ (s8 3049) := k15
        have b16 : 0 ≤ (s8 3050) ∧ (s8 3050) ≤ 8 := hS8 3050
        have b17 : 0 ≤ (s8 3049) ∧ (s8 3049) ≤ 32769 := hS8 3049
        have e18 : s8 3014 = (s0 3014) := (f10 3014 (by decide))
        have b19 : 0 ≤ (s8 3014) ∧ (s8 3014) ≤ 32768 := hS8 3014
        have hx20 : tpl A (s8 3014) (c0 34) := by rw [f10 3014 (by decide)]; exact htp
        refine tt_ist (i := k_) (x := r9) rfl rfl (by omega) ?_
        show tt Zi d 195 (29, [some (.inr (.inl 30)), some (.inl k_)], [], n, D, s8, p, (uc c0 46 (ua (c0 46) (k_).toNat r9))) _
        refine tt_k 2 (S' := (7, [some (.inr (.inl 30)), some (.inl (k_ + 1))], [], n, D, s8, p, (uc c0 46 (ua (c0 46) (k_).toNat r9)))) rfl ?_
        have hgq : s8 3050 = 0 → qM A aa k_.toNat = r9 := fun hf => by have h := k12 hf; unfold qM; rw [show aa + 3 + 2 * (k_.toNat : Int) = s0 3049 by omega]; exact h.1.2
        exact ih (k_ + 1) s8 (uc c0 46 (ua (c0 46) (k_).toNat r9)) (by omega) hS8 (fr_tr hF0 f10 (by decide)) (bC_st hC0 (show 0 ≤ r9 ∧ r9 ≤ 65535 by omega)) (frc_uc (by decide) hG0) (fun hf => by have h := k12 hf; omega) (fun hf => by have h := k13 (by omega) hf; rintro ⟨h3, h4, h5⟩; omega) (fun hf j hj => by show ua (c0 46) k_.toNat r9 j = qM A aa j; exact if e : j = k_.toNat then (by rw [e, ua_eq]; exact (hgq hf).symm) else (by rw [ua_ne e]; exact i2 (by omega) j (by omega))) (show aa + 2 ≤ (s8 3049) by omega) (show s 3050 ≠ 0 → (s8 3050) ≠ 0 by omega) (show (5 - (k_ + 1)).toNat < m by omega)
set_option maxRecDepth 100000 in
set_option maxHeartbeats 4000000 in
theorem v_readMeasures {Zi : Nat → Option (Nat × (Nat → Int))} {d n : Nat} {D : Nat → Nat × Nat} {s : Nat → Int} {p : Nat → Nat} {c : Nat → Nat → Int} (hd : 3 ≤ d) (hS : bS s) (hC : bC D c) (A : TN) (aa : Int) (hp0 : tpl A (s 3014) (c 34)) (hp1 : s 3050 = 0) (hp2 : s 3049 = aa + 2) (hp3 : gT A aa = 13) (hp4 : 0 ≤ aa) : tt Zi d 195 (0, [some (.inr (.inl 30)), none], [], n, D, s, p, c) (fun R H => ∃ (s' : Nat → Int) (c' : Nat → Nat → Int), R = .inl none ∧ H = (n, D, s', p, c') ∧ bS s' ∧ bC D c' ∧ fr s s' [3049, 3050, 3051] ∧ frc c c' [46] ∧ (s' 3050 = 0 → okM A aa) ∧ (s' 3050 ≠ 0 → ¬ okM A aa) ∧ (s' 3050 = 0 → s' 3049 = aa + 13 ∧ s' 3049 ≤ s 3014) ∧ (s' 3050 = 0 → ∀ i : Nat, i < 5 → c' 46 i = qM A aa i) ∧ (s 3049 ≤ s' 3049)) := by
  have hA := hp0.1
  have b1 : 0 ≤ (s 3049) ∧ (s 3049) ≤ 32769 := hS 3049
  have b2 : 0 ≤ (s 3014) ∧ (s 3014) ≤ 32768 := hS 3014
  have b3 : 0 ≤ (s 3050) ∧ (s 3050) ≤ 8 := hS 3050
  refine tt_k 2 (S' := (2, [some (.inr (.inl 30)), none], [.inl 1, .inr (.inl 30)], n, D, s, p, c)) rfl ?_
  refine tt_cl (by omega) rfl (v_want (Zi := Zi) (D := D) (s := s) (p := p) (c := c) (by omega) hS hC A 1 (by omega) hp0) ?_
  rintro _ _ ⟨s4, rfl, rfl, hS4, f5, k6, k7, k8, k9⟩
  show tt Zi d 195 (5, [some (.inr (.inl 30)), none], [], n, D, s4, p, c) _
  replace k6 : (s4 3050) = 0 → ((s 3049) < A.2 ∧ gB A ((s 3049)) = 1) ∧ (s4 3049) = (s 3049) + 1 ∧ (s4 3049) ≤ (s 3014) := k6
  replace k7 : (s 3050) = 0 → (s4 3050) ≠ 0 → A.2 ≤ (s 3049) ∨ gB A ((s 3049)) ≠ 1 := k7
  replace k8 : (s 3050) ≠ 0 → (s4 3050) ≠ 0 := k8
  replace k9 : (s 3049) ≤ (s4 3049) := k9
  have b10 : 0 ≤ (s4 3050) ∧ (s4 3050) ≤ 8 := hS4 3050
  have b11 : 0 ≤ (s4 3049) ∧ (s4 3049) ≤ 32769 := hS4 3049
  have e12 : s4 3014 = (s 3014) := (f5 3014 (by decide))
  have b13 : 0 ≤ (s4 3014) ∧ (s4 3014) ≤ 32768 := hS4 3014
  have hx14 : tpl A (s4 3014) (c 34) := by rw [f5 3014 (by decide)]; exact hp0
  by_cases hf1 : s4 3050 = 0
  · skip
    have hb1 := k6 hf1
    rw [hp2] at hb1
    refine tt_k 2 (S' := (7, [some (.inr (.inl 30)), some (.inl 0)], [], n, D, s4, p, c)) rfl ?_
    refine v_readMeasures_L7 (Zi := Zi) (D := D) (s := s4) (p := p) (c := c) hd hS4 hC A aa  hx14 (show 0 ≤ aa by omega) ?_ _ 0 s4 c (by omega) hS4 fr_rf hC frc_rf (show (s4 3050) = 0 → (s4 3049) = aa + 3 + 2 * 0 ∧ (s4 3049) ≤ (s4 3014) by omega) (fun h => absurd h (by omega)) (fun _ j hj => absurd hj (by omega)) (show aa + 2 ≤ (s4 3049) by omega) (show (s4 3050) ≠ 0 → (s4 3050) ≠ 0 by omega) (Nat.lt_succ_self _)
    intro x15 s16 c17 b18 hS16 f19 hC17 g20 i21 i22 i23 i24 i25 hx26
    show tt Zi d 195 (35, [some (.inr (.inl 30)), some (.inl x15)], [], n, D, s16, p, c17) _
    have e27 : s16 3014 = (s4 3014) := (f19 3014 (by decide))
    have b28 : 0 ≤ (s16 3014) ∧ (s16 3014) ≤ 32768 := hS16 3014
    have hx29 : tpl A (s16 3014) (c17 34) := by rw [f19 3014 (by decide), g20 34 (by decide)]; exact hx14
    exact tt_rtv rfl rfl ⟨s16, c17, rfl, rfl, hS16, hC17, (fr_tr (fr_tr fr_rf f5 (by decide)) f19 (by decide)), (frc_tr frc_rf g20 (by decide)), by show (s16 3050) = 0 → okM A aa; intro hf; have h := i21 hf; first | (exfalso; omega) | exact ⟨by omega, hp3, by omega⟩, by show (s16 3050) ≠ 0 → ¬ okM A aa; exact i22, by show (s16 3050) = 0 → (s16 3049) = aa + 13 ∧ (s16 3049) ≤ s 3014; intro hf; have h := i21 hf; omega, by show (s16 3050) = 0 → ∀ i : Nat, i < 5 → (c17 46) i = qM A aa i; intro hf i hi; exact i23 hf i (by omega), by show s 3049 ≤ (s16 3049); omega⟩
  · skip
    have hno : ¬ okM A aa := by have h := k7 (by omega) hf1; rw [hp2] at h; rintro ⟨h3, h4, h5⟩; omega
    refine tt_k 2 (S' := (7, [some (.inr (.inl 30)), some (.inl 0)], [], n, D, s4, p, c)) rfl ?_
    refine v_readMeasures_L7 (Zi := Zi) (D := D) (s := s4) (p := p) (c := c) hd hS4 hC A aa  hx14 (show 0 ≤ aa by omega) ?_ _ 0 s4 c (by omega) hS4 fr_rf hC frc_rf (fun h => absurd h (by omega)) (fun _ => hno) (fun h => absurd h (by omega)) (show aa + 2 ≤ (s4 3049) by omega) (show (s4 3050) ≠ 0 → (s4 3050) ≠ 0 by omega) (Nat.lt_succ_self _)
    intro x30 s31 c32 b33 hS31 f34 hC32 g35 i36 i37 i38 i39 i40 hx41
    show tt Zi d 195 (35, [some (.inr (.inl 30)), some (.inl x30)], [], n, D, s31, p, c32) _
    have e42 : s31 3014 = (s4 3014) := (f34 3014 (by decide))
    have b43 : 0 ≤ (s31 3014) ∧ (s31 3014) ≤ 32768 := hS31 3014
    have hx44 : tpl A (s31 3014) (c32 34) := by rw [f34 3014 (by decide), g35 34 (by decide)]; exact hx14
    exact tt_rtv rfl rfl ⟨s31, c32, rfl, rfl, hS31, hC32, (fr_tr (fr_tr fr_rf f5 (by decide)) f34 (by decide)), (frc_tr frc_rf g35 (by decide)), by show (s31 3050) = 0 → okM A aa; intro hf; have h := i36 hf; first | (exfalso; omega) | exact ⟨by omega, hp3, by omega⟩, by show (s31 3050) ≠ 0 → ¬ okM A aa; exact i37, by show (s31 3050) = 0 → (s31 3049) = aa + 13 ∧ (s31 3049) ≤ s 3014; intro hf; have h := i36 hf; omega, by show (s31 3050) = 0 → ∀ i : Nat, i < 5 → (c32 46) i = qM A aa i; intro hf i hi; exact i38 hf i (by omega), by show s 3049 ≤ (s31 3049); omega⟩
