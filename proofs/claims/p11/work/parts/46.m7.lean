/-! the reference reads sections; planes begin and are kept; neighbours -/
set_option maxRecDepth 100000 in
set_option maxHeartbeats 4000000 in
theorem k_nextTwo {Zi : Nat → Option (Nat × (Nat → Int))} {d n : Nat} {D : Nat → Nat × Nat} {s : Nat → Int} {p : Nat → Nat} {c : Nat → Nat → Int} (hd : 2 ≤ d) (hS : bS s) (hC : bC D c)  : tt Zi d 191 (0, [some (.inr (.inl 30)), none], [], n, D, s, p, c) (fun R H => ∃ (s' : Nat → Int) (r : Int), R = .inl (some (.inl r)) ∧ H = (n, D, s', p, c) ∧ bS s' ∧ fr s s' [3049, 3050, 3051] ∧ (0 ≤ r ∧ r ≤ 65535) ∧ (s 3049 ≤ s' 3049) ∧ (s 3050 ≠ 0 → s' 3050 ≠ 0) ∧ (s' 3050 = 0 → s' 3049 = s 3049 + 2 ∧ s' 3049 ≤ s 3014)) := by
  refine tt_k 1 (S' := (1, [some (.inr (.inl 30)), none], [.inr (.inl 30)], n, D, s, p, c)) rfl ?_
  refine tt_cl (by omega) rfl (k_nextByte (Zi := Zi) (D := D) (s := s) (p := p) (c := c) (by omega) hS hC ) ?_
  rintro _ _ ⟨s1, r2, rfl, rfl, hS1, f3, b4, k5, k6, k7⟩
  show tt Zi d 191 (4, [some (.inr (.inl 30)), none], [.inl r2], n, D, s1, p, c) _
  have k5 : (s1 3050) = 0 → (s1 3049) = (s 3049) + 1 ∧ (s1 3049) ≤ (s 3014) := k5
  have k6 : (s 3049) ≤ (s1 3049) := k6
  have k7 : (s 3050) ≠ 0 → (s1 3050) ≠ 0 := k7
  have b8 : 0 ≤ (s 3049) ∧ (s 3049) ≤ 32769 := hS 3049
  have b9 : 0 ≤ (s 3014) ∧ (s 3014) ≤ 32768 := hS 3014
  have b10 : 0 ≤ (s1 3050) ∧ (s1 3050) ≤ 8 := hS1 3050
  have b11 : 0 ≤ (s1 3049) ∧ (s1 3049) ≤ 32769 := hS1 3049
  have b12 : 0 ≤ (s 3050) ∧ (s 3050) ≤ 8 := hS 3050
  have e13 : s1 3014 = (s 3014) := (f3 3014 (by decide))
  have b14 : 0 ≤ (s1 3014) ∧ (s1 3014) ≤ 32768 := hS1 3014
  refine tt_k 3 (S' := (9, [some (.inr (.inl 30)), some (.inl r2)], [.inl (s1 3050)], n, D, s1, p, c)) rfl ?_
  refine tz_le (x := (s1 3050)) rfl rfl (by omega) (fun h15 => ?_) (fun h15 => ?_)
  · show tt Zi d 191 (16, [some (.inr (.inl 30)), some (.inl r2)], [], n, D, s1, p, c) _
    refine tt_k 4 (S' := (22, [some (.inr (.inl 30)), some (.inl r2)], [.inr (.inl 30), .inl (256 * r2)], n, D, s1, p, c)) rfl ?_
    refine tt_cl (by omega) rfl (k_nextByte (Zi := Zi) (D := D) (s := s1) (p := p) (c := c) (by omega) hS1 hC ) ?_
    rintro _ _ ⟨s16, r17, rfl, rfl, hS16, f18, b19, k20, k21, k22⟩
    show tt Zi d 191 (25, [some (.inr (.inl 30)), some (.inl r2)], [.inl r17, .inl (256 * r2)], n, D, s16, p, c) _
    have k20 : (s16 3050) = 0 → (s16 3049) = (s1 3049) + 1 ∧ (s16 3049) ≤ (s1 3014) := k20
    have k21 : (s1 3049) ≤ (s16 3049) := k21
    have k22 : (s1 3050) ≠ 0 → (s16 3050) ≠ 0 := k22
    have b23 : 0 ≤ (s16 3050) ∧ (s16 3050) ≤ 8 := hS16 3050
    have b24 : 0 ≤ (s16 3049) ∧ (s16 3049) ≤ 32769 := hS16 3049
    have e25 : s16 3014 = (s1 3014) := (f18 3014 (by decide))
    have b26 : 0 ≤ (s16 3014) ∧ (s16 3014) ≤ 32768 := hS16 3014
    refine tt_k 1 (S' := (26, [some (.inr (.inl 30)), some (.inl r2)], [.inl ((256 * r2) + r17)], n, D, s16, p, c)) rfl ?_
    exact tt_rti rfl rfl ⟨s16, ((256 * r2) + r17), rfl, rfl, hS16, (fr_tr (fr_tr fr_rf f3 (by decide)) f18 (by decide)), by omega, by show s 3049 ≤ (s16 3049); omega, by show s 3050 ≠ 0 → (s16 3050) ≠ 0; omega, by show (s16 3050) = 0 → (s16 3049) = s 3049 + 2 ∧ (s16 3049) ≤ s 3014; omega⟩
  · show tt Zi d 191 (12, [some (.inr (.inl 30)), some (.inl r2)], [], n, D, s1, p, c) _
    refine tt_k 2 (S' := (26, [some (.inr (.inl 30)), some (.inl r2)], [.inl 0], n, D, s1, p, c)) rfl ?_
    exact tt_rti rfl rfl ⟨s1, 0, rfl, rfl, hS1, (fr_tr fr_rf f3 (by decide)), by omega, by show s 3049 ≤ (s1 3049); omega, by show s 3050 ≠ 0 → (s1 3050) ≠ 0; omega, by show (s1 3050) = 0 → (s1 3049) = s 3049 + 2 ∧ (s1 3049) ≤ s 3014; omega⟩
set_option maxRecDepth 100000 in
set_option maxHeartbeats 4000000 in
theorem k_want {Zi : Nat → Option (Nat × (Nat → Int))} {d n : Nat} {D : Nat → Nat × Nat} {s : Nat → Int} {p : Nat → Nat} {c : Nat → Nat → Int} (hd : 2 ≤ d) (hS : bS s) (hC : bC D c) (v : Int) (b_v : -2147483648 ≤ v ∧ v ≤ 2147483647) : tt Zi d 194 (0, [some (.inr (.inl 30)), some (.inl v), none], [], n, D, s, p, c) (fun R H => ∃ (s' : Nat → Int), R = .inl none ∧ H = (n, D, s', p, c) ∧ bS s' ∧ fr s s' [3049, 3050, 3051] ∧ (s 3049 ≤ s' 3049) ∧ (s 3050 ≠ 0 → s' 3050 ≠ 0) ∧ (s' 3050 = 0 → s' 3049 ≤ s 3014)) := by
  refine tt_k 1 (S' := (1, [some (.inr (.inl 30)), some (.inl v), none], [.inr (.inl 30)], n, D, s, p, c)) rfl ?_
  refine tt_cl (by omega) rfl (k_nextByte (Zi := Zi) (D := D) (s := s) (p := p) (c := c) (by omega) hS hC ) ?_
  rintro _ _ ⟨s1, r2, rfl, rfl, hS1, f3, b4, k5, k6, k7⟩
  show tt Zi d 194 (4, [some (.inr (.inl 30)), some (.inl v), none], [.inl r2], n, D, s1, p, c) _
  have k5 : (s1 3050) = 0 → (s1 3049) = (s 3049) + 1 ∧ (s1 3049) ≤ (s 3014) := k5
  have k6 : (s 3049) ≤ (s1 3049) := k6
  have k7 : (s 3050) ≠ 0 → (s1 3050) ≠ 0 := k7
  have b8 : 0 ≤ (s 3049) ∧ (s 3049) ≤ 32769 := hS 3049
  have b9 : 0 ≤ (s 3014) ∧ (s 3014) ≤ 32768 := hS 3014
  have b10 : 0 ≤ (s1 3050) ∧ (s1 3050) ≤ 8 := hS1 3050
  have b11 : 0 ≤ (s1 3049) ∧ (s1 3049) ≤ 32769 := hS1 3049
  have b12 : 0 ≤ (s 3050) ∧ (s 3050) ≤ 8 := hS 3050
  have e13 : s1 3014 = (s 3014) := (f3 3014 (by decide))
  have b14 : 0 ≤ (s1 3014) ∧ (s1 3014) ≤ 32768 := hS1 3014
  refine tt_k 3 (S' := (9, [some (.inr (.inl 30)), some (.inl v), some (.inl r2)], [.inl (s1 3050)], n, D, s1, p, c)) rfl ?_
  refine tz_ne (x := (s1 3050)) rfl rfl (by omega) (fun h15 => ?_) (fun h15 => ?_)
  · show tt Zi d 194 (28, [some (.inr (.inl 30)), some (.inl v), some (.inl r2)], [], n, D, s1, p, c) _
    exact tt_rtv rfl rfl ⟨s1, rfl, rfl, hS1, (fr_tr fr_rf f3 (by decide)), by show s 3049 ≤ (s1 3049); omega, by show s 3050 ≠ 0 → (s1 3050) ≠ 0; omega, by show (s1 3050) = 0 → (s1 3049) ≤ s 3014; omega⟩
  · show tt Zi d 194 (12, [some (.inr (.inl 30)), some (.inl v), some (.inl r2)], [], n, D, s1, p, c) _
    refine tt_k 2 (S' := (14, [some (.inr (.inl 30)), some (.inl v), some (.inl r2)], [.inl v, .inl r2], n, D, s1, p, c)) rfl ?_
    refine tb_eq (x := r2) (y := v) rfl rfl (by omega) (fun h16 => ?_) (fun h16 => ?_)
    · show tt Zi d 194 (28, [some (.inr (.inl 30)), some (.inl v), some (.inl r2)], [], n, D, s1, p, c) _
      exact tt_rtv rfl rfl ⟨s1, rfl, rfl, hS1, (fr_tr fr_rf f3 (by decide)), by show s 3049 ≤ (s1 3049); omega, by show s 3050 ≠ 0 → (s1 3050) ≠ 0; omega, by show (s1 3050) = 0 → (s1 3049) ≤ s 3014; omega⟩
    · show tt Zi d 194 (17, [some (.inr (.inl 30)), some (.inl v), some (.inl r2)], [], n, D, s1, p, c) _
      refine tt_k 6 (S' := (25, [some (.inr (.inl 30)), some (.inl v), some (.inl r2)], [.inl ((s1 3049) - 1), .inl 5, .inr (.inl 30)], n, D, s1, p, c)) rfl ?_
      refine tt_cl (by omega) rfl (k_fail (Zi := Zi) (D := D) (s := s1) (p := p) (c := c) (by omega) hS1 hC 5 ((s1 3049) - 1) (by omega) (by omega)) ?_
      rintro _ _ ⟨s17, rfl, rfl, hS17, f18, k19, k20⟩
      show tt Zi d 194 (28, [some (.inr (.inl 30)), some (.inl v), some (.inl r2)], [], n, D, s17, p, c) _
      have k19 : ((s1 3050) = 0 → (s17 3050) = 5 ∧ (s17 3051) = ((s1 3049) - 1)) := k19
      have k20 : ((s1 3050) ≠ 0 → (s17 3050) = (s1 3050) ∧ (s17 3051) = (s1 3051)) := k20
      have b21 : 0 ≤ (s17 3050) ∧ (s17 3050) ≤ 8 := hS17 3050
      have b22 : -1 ≤ (s17 3051) ∧ (s17 3051) ≤ 32769 := hS17 3051
      have b23 : -1 ≤ (s1 3051) ∧ (s1 3051) ≤ 32769 := hS1 3051
      have e24 : s17 3049 = (s1 3049) := (f18 3049 (by decide))
      have b25 : 0 ≤ (s17 3049) ∧ (s17 3049) ≤ 32769 := hS17 3049
      have e26 : s17 3014 = (s1 3014) := (f18 3014 (by decide))
      have b27 : 0 ≤ (s17 3014) ∧ (s17 3014) ≤ 32768 := hS17 3014
      exact tt_rtv rfl rfl ⟨s17, rfl, rfl, hS17, (fr_tr (fr_tr fr_rf f3 (by decide)) f18 (by decide)), by show s 3049 ≤ (s17 3049); omega, by show s 3050 ≠ 0 → (s17 3050) ≠ 0; omega, by show (s17 3050) = 0 → (s17 3049) ≤ s 3014; omega⟩
set_option maxRecDepth 100000 in
set_option maxHeartbeats 4000000 in
theorem k_between {Zi : Nat → Option (Nat × (Nat → Int))} {d n : Nat} {D : Nat → Nat × Nat} {s : Nat → Int} {p : Nat → Nat} {c : Nat → Nat → Int} (hd : 1 ≤ d) (hS : bS s) (hC : bC D c) (v : Int) (wh : Int) (lo : Int) (hi : Int) (b_v : 0 ≤ v ∧ v ≤ 65535) (b_wh : 0 ≤ wh ∧ wh ≤ 32769) (b_lo : -2147483648 ≤ lo ∧ lo ≤ 2147483647) (b_hi : -2147483648 ≤ hi ∧ hi ≤ 2147483647) : tt Zi d 193 (0, [some (.inr (.inl 30)), some (.inl v), some (.inl wh), some (.inl lo), some (.inl hi)], [], n, D, s, p, c) (fun R H => ∃ (s' : Nat → Int) (r : Int), R = .inl (some (.inl r)) ∧ H = (n, D, s', p, c) ∧ bS s' ∧ fr s s' [3050, 3051] ∧ (0 ≤ r ∧ r ≤ 65535) ∧ (r = v) ∧ (s 3050 ≠ 0 → s' 3050 ≠ 0) ∧ (s' 3050 = 0 → lo ≤ v ∧ v ≤ hi)) := by
  refine tt_k 2 (S' := (4, [some (.inr (.inl 30)), some (.inl v), some (.inl wh), some (.inl lo), some (.inl hi)], [.inl (s 3050)], n, D, s, p, c)) rfl ?_
  have b1 : 0 ≤ (s 3050) ∧ (s 3050) ≤ 8 := hS 3050
  refine tz_ne (x := (s 3050)) rfl rfl (by omega) (fun h2 => ?_) (fun h2 => ?_)
  · show tt Zi d 193 (23, [some (.inr (.inl 30)), some (.inl v), some (.inl wh), some (.inl lo), some (.inl hi)], [], n, D, s, p, c) _
    refine tt_k 1 (S' := (24, [some (.inr (.inl 30)), some (.inl v), some (.inl wh), some (.inl lo), some (.inl hi)], [.inl v], n, D, s, p, c)) rfl ?_
    exact tt_rti rfl rfl ⟨s, v, rfl, rfl, hS, fr_rf, by omega, by show v = v; omega, by show s 3050 ≠ 0 → (s 3050) ≠ 0; omega, by show (s 3050) = 0 → lo ≤ v ∧ v ≤ hi; omega⟩
  · show tt Zi d 193 (7, [some (.inr (.inl 30)), some (.inl v), some (.inl wh), some (.inl lo), some (.inl hi)], [], n, D, s, p, c) _
    refine tt_k 3 (S' := (11, [some (.inr (.inl 30)), some (.inl v), some (.inl wh), some (.inl lo), some (.inl hi)], [.inl hi, .inl lo, .inl v], n, D, s, p, c)) rfl ?_
    refine tt_cl (by omega) rfl (k_isIn (Zi := Zi) (D := D) (s := s) (p := p) (c := c) (by omega) hS hC v lo hi (by omega) (by omega) (by omega)) ?_
    rintro _ _ ⟨r3, rfl, rfl, b4, k5⟩
    show tt Zi d 193 (14, [some (.inr (.inl 30)), some (.inl v), some (.inl wh), some (.inl lo), some (.inl hi)], [.inl r3], n, D, s, p, c) _
    have k5 : r3 = if lo ≤ v ∧ v ≤ hi then (1 : Int) else 0 := k5
    subst k5
    show tt Zi d 193 (14, [some (.inr (.inl 30)), some (.inl v), some (.inl wh), some (.inl lo), some (.inl hi)], [.inl (if lo ≤ v ∧ v ≤ hi then (1 : Int) else 0)], n, D, s, p, c) _
    refine tz_ne (x := (if lo ≤ v ∧ v ≤ hi then (1 : Int) else 0)) rfl rfl (by omega) (fun h6 => ?_) (fun h6 => ?_)
    · show tt Zi d 193 (23, [some (.inr (.inl 30)), some (.inl v), some (.inl wh), some (.inl lo), some (.inl hi)], [], n, D, s, p, c) _
      refine tt_k 1 (S' := (24, [some (.inr (.inl 30)), some (.inl v), some (.inl wh), some (.inl lo), some (.inl hi)], [.inl v], n, D, s, p, c)) rfl ?_
      exact tt_rti rfl rfl ⟨s, v, rfl, rfl, hS, fr_rf, by omega, by show v = v; omega, by show s 3050 ≠ 0 → (s 3050) ≠ 0; omega, by show (s 3050) = 0 → lo ≤ v ∧ v ≤ hi; omega⟩
    · show tt Zi d 193 (17, [some (.inr (.inl 30)), some (.inl v), some (.inl wh), some (.inl lo), some (.inl hi)], [], n, D, s, p, c) _
      refine tt_k 3 (S' := (20, [some (.inr (.inl 30)), some (.inl v), some (.inl wh), some (.inl lo), some (.inl hi)], [.inl wh, .inl 5, .inr (.inl 30)], n, D, s, p, c)) rfl ?_
      refine tt_cl (by omega) rfl (k_fail (Zi := Zi) (D := D) (s := s) (p := p) (c := c) (by omega) hS hC 5 wh (by omega) (by omega)) ?_
      rintro _ _ ⟨s7, rfl, rfl, hS7, f8, k9, k10⟩
      show tt Zi d 193 (23, [some (.inr (.inl 30)), some (.inl v), some (.inl wh), some (.inl lo), some (.inl hi)], [], n, D, s7, p, c) _
      have k9 : ((s 3050) = 0 → (s7 3050) = 5 ∧ (s7 3051) = wh) := k9
      have k10 : ((s 3050) ≠ 0 → (s7 3050) = (s 3050) ∧ (s7 3051) = (s 3051)) := k10
      have b11 : 0 ≤ (s7 3050) ∧ (s7 3050) ≤ 8 := hS7 3050
      have b12 : -1 ≤ (s7 3051) ∧ (s7 3051) ≤ 32769 := hS7 3051
      have b13 : -1 ≤ (s 3051) ∧ (s 3051) ≤ 32769 := hS 3051
      refine tt_k 1 (S' := (24, [some (.inr (.inl 30)), some (.inl v), some (.inl wh), some (.inl lo), some (.inl hi)], [.inl v], n, D, s7, p, c)) rfl ?_
      exact tt_rti rfl rfl ⟨s7, v, rfl, rfl, hS7, (fr_tr fr_rf f8 (by decide)), by omega, by show v = v; omega, by show s 3050 ≠ 0 → (s7 3050) ≠ 0; omega, by show (s7 3050) = 0 → lo ≤ v ∧ v ≤ hi; omega⟩
set_option maxRecDepth 100000 in
set_option maxHeartbeats 4000000 in
theorem k_nextMark_L30 {Zi : Nat → Option (Nat × (Nat → Int))} {d n : Nat} {D : Nat → Nat × Nat} {s : Nat → Int} {p : Nat → Nat} {c : Nat → Nat → Int}  {Q : mi_Rs → mi_H → Prop} (hd : 2 ≤ d) (hS : bS s) (hC : bC D c) (A1 : Int)
  (hK : ∀ (v : Int) (s0 : Nat → Int) (b_v : 0 ≤ v ∧ v ≤ 255) (hS0 : bS s0) (hF0 : fr s s0 [3049, 3050, 3051]) (i0 : A1 ≤ s0 3049) (i1 : s 3050 ≠ 0 → s0 3050 ≠ 0) (i2 : s0 3050 = 0 → (A1 + 1 ≤ s0 3049 ∨ v = 255) ∧ s0 3049 ≤ s 3014), s0 3050 ≠ 0 ∨ v ≠ 255 → tt Zi d 187 (52, [some (.inr (.inl 30)), some (.inl v)], [], n, D, s0, p, c) Q) :
  ∀ (m : Nat) (v : Int) (s0 : Nat → Int) (b_v : 0 ≤ v ∧ v ≤ 255) (hS0 : bS s0) (hF0 : fr s s0 [3049, 3050, 3051]) (i0 : A1 ≤ s0 3049) (i1 : s 3050 ≠ 0 → s0 3050 ≠ 0) (i2 : s0 3050 = 0 → (A1 + 1 ≤ s0 3049 ∨ v = 255) ∧ s0 3049 ≤ s 3014), (if s0 3050 = 0 then s 3014 - s0 3049 + 2 else 0).toNat < m → tt Zi d 187 (30, [some (.inr (.inl 30)), some (.inl v)], [], n, D, s0, p, c) Q := by
  intro m
  induction m with
  | zero => intro v s0 b_v hS0 hF0 i0 i1 i2 hm; exact absurd hm (by omega)
  | succ m ih =>
    intro v s0 b_v hS0 hF0 i0 i1 i2 hm
    have e1 : s0 3014 = s 3014 := hF0 3014 (by decide)
    have b2 : 0 ≤ (s0 3014) ∧ (s0 3014) ≤ 32768 := hS0 3014
    have b3 : 0 ≤ (s 3014) ∧ (s 3014) ≤ 32768 := hS 3014
    refine tt_k 2 (S' := (34, [some (.inr (.inl 30)), some (.inl v)], [.inl (s0 3050)], n, D, s0, p, c)) rfl ?_
    have b4 : 0 ≤ (s0 3050) ∧ (s0 3050) ≤ 8 := hS0 3050
    refine tz_ne (x := (s0 3050)) rfl rfl (by omega) (fun h5 => ?_) (fun h5 => ?_)
    · show tt Zi d 187 (52, [some (.inr (.inl 30)), some (.inl v)], [], n, D, s0, p, c) _
      exact hK v s0 (by omega) hS0 hF0 (show A1 ≤ (s0 3049) by omega) (show s 3050 ≠ 0 → (s0 3050) ≠ 0 by omega) (show (s0 3050) = 0 → (A1 + 1 ≤ (s0 3049) ∨ v = 255) ∧ (s0 3049) ≤ s 3014 by omega) (by omega)
    · show tt Zi d 187 (37, [some (.inr (.inl 30)), some (.inl v)], [], n, D, s0, p, c) _
      refine tt_k 2 (S' := (41, [some (.inr (.inl 30)), some (.inl v)], [.inl 255, .inl v], n, D, s0, p, c)) rfl ?_
      refine tb_ne (x := v) (y := 255) rfl rfl (by omega) (fun h6 => ?_) (fun h6 => ?_)
      · show tt Zi d 187 (52, [some (.inr (.inl 30)), some (.inl v)], [], n, D, s0, p, c) _
        exact hK v s0 (by omega) hS0 hF0 (show A1 ≤ (s0 3049) by omega) (show s 3050 ≠ 0 → (s0 3050) ≠ 0 by omega) (show (s0 3050) = 0 → (A1 + 1 ≤ (s0 3049) ∨ v = 255) ∧ (s0 3049) ≤ s 3014 by omega) (by omega)
      · show tt Zi d 187 (44, [some (.inr (.inl 30)), some (.inl v)], [], n, D, s0, p, c) _
        refine tt_k 1 (S' := (45, [some (.inr (.inl 30)), some (.inl v)], [.inr (.inl 30)], n, D, s0, p, c)) rfl ?_
        refine tt_cl (by omega) rfl (k_nextByte (Zi := Zi) (D := D) (s := s0) (p := p) (c := c) (by omega) hS0 hC ) ?_
        rintro _ _ ⟨s7, r8, rfl, rfl, hS7, f9, b10, k11, k12, k13⟩
        show tt Zi d 187 (48, [some (.inr (.inl 30)), some (.inl v)], [.inl r8], n, D, s7, p, c) _
        have k11 : (s7 3050) = 0 → (s7 3049) = (s0 3049) + 1 ∧ (s7 3049) ≤ (s0 3014) := k11
        have k12 : (s0 3049) ≤ (s7 3049) := k12
        have k13 : (s0 3050) ≠ 0 → (s7 3050) ≠ 0 := k13
        have b14 : 0 ≤ (s0 3049) ∧ (s0 3049) ≤ 32769 := hS0 3049
        have b15 : 0 ≤ (s7 3050) ∧ (s7 3050) ≤ 8 := hS7 3050
        have b16 : 0 ≤ (s7 3049) ∧ (s7 3049) ≤ 32769 := hS7 3049
        have e17 : s7 3014 = (s0 3014) := (f9 3014 (by decide))
        have b18 : 0 ≤ (s7 3014) ∧ (s7 3014) ≤ 32768 := hS7 3014
        refine tt_k 2 (S' := (30, [some (.inr (.inl 30)), some (.inl r8)], [], n, D, s7, p, c)) rfl ?_
        exact ih r8 s7 (by omega) hS7 (fr_tr hF0 f9 (by decide)) (show A1 ≤ (s7 3049) by omega) (show s 3050 ≠ 0 → (s7 3050) ≠ 0 by omega) (show (s7 3050) = 0 → (A1 + 1 ≤ (s7 3049) ∨ r8 = 255) ∧ (s7 3049) ≤ s 3014 by omega) (show (if (s7 3050) = 0 then s 3014 - (s7 3049) + 2 else 0).toNat < m by omega)
set_option maxRecDepth 100000 in
set_option maxHeartbeats 4000000 in
theorem k_nextMark {Zi : Nat → Option (Nat × (Nat → Int))} {d n : Nat} {D : Nat → Nat × Nat} {s : Nat → Int} {p : Nat → Nat} {c : Nat → Nat → Int} (hd : 2 ≤ d) (hS : bS s) (hC : bC D c)  : tt Zi d 187 (0, [some (.inr (.inl 30)), none], [], n, D, s, p, c) (fun R H => ∃ (s' : Nat → Int) (r : Int), R = .inl (some (.inl r)) ∧ H = (n, D, s', p, c) ∧ bS s' ∧ fr s s' [3049, 3050, 3051] ∧ (0 ≤ r ∧ r ≤ 255) ∧ (s 3050 ≠ 0 → s' 3050 ≠ 0) ∧ (s' 3050 = 0 → s 3049 + 2 ≤ s' 3049 ∧ s' 3049 ≤ s 3014) ∧ (s 3049 ≤ s' 3049)) := by
  refine tt_k 1 (S' := (1, [some (.inr (.inl 30)), none], [.inr (.inl 30)], n, D, s, p, c)) rfl ?_
  refine tt_cl (by omega) rfl (k_nextByte (Zi := Zi) (D := D) (s := s) (p := p) (c := c) (by omega) hS hC ) ?_
  rintro _ _ ⟨s1, r2, rfl, rfl, hS1, f3, b4, k5, k6, k7⟩
  show tt Zi d 187 (4, [some (.inr (.inl 30)), none], [.inl r2], n, D, s1, p, c) _
  have k5 : (s1 3050) = 0 → (s1 3049) = (s 3049) + 1 ∧ (s1 3049) ≤ (s 3014) := k5
  have k6 : (s 3049) ≤ (s1 3049) := k6
  have k7 : (s 3050) ≠ 0 → (s1 3050) ≠ 0 := k7
  have b8 : 0 ≤ (s 3049) ∧ (s 3049) ≤ 32769 := hS 3049
  have b9 : 0 ≤ (s 3014) ∧ (s 3014) ≤ 32768 := hS 3014
  have b10 : 0 ≤ (s1 3050) ∧ (s1 3050) ≤ 8 := hS1 3050
  have b11 : 0 ≤ (s1 3049) ∧ (s1 3049) ≤ 32769 := hS1 3049
  have b12 : 0 ≤ (s 3050) ∧ (s 3050) ≤ 8 := hS 3050
  have e13 : s1 3014 = (s 3014) := (f3 3014 (by decide))
  have b14 : 0 ≤ (s1 3014) ∧ (s1 3014) ≤ 32768 := hS1 3014
  refine tt_k 3 (S' := (9, [some (.inr (.inl 30)), some (.inl r2)], [.inl (s1 3050)], n, D, s1, p, c)) rfl ?_
  refine tz_ne (x := (s1 3050)) rfl rfl (by omega) (fun h15 => ?_) (fun h15 => ?_)
  · show tt Zi d 187 (30, [some (.inr (.inl 30)), some (.inl r2)], [], n, D, s1, p, c) _
    refine k_nextMark_L30 (Zi := Zi) (D := D) (s := s1) (p := p) (c := c) hd hS1 hC ((s1 3049))   ?_ _ r2 s1 (by omega) hS1 fr_rf (Int.le_refl _) (fun h => h) (show (s1 3050) = 0 → (((s1 3049)) + 1 ≤ (s1 3049) ∨ r2 = 255) ∧ (s1 3049) ≤ (s1 3014) by omega) (Nat.lt_succ_self _)
    intro x16 s17 b18 hS17 f19 i20 i21 i22 hx23
    show tt Zi d 187 (52, [some (.inr (.inl 30)), some (.inl x16)], [], n, D, s17, p, c) _
    have e24 : s17 3014 = (s1 3014) := (f19 3014 (by decide))
    have b25 : 0 ≤ (s17 3014) ∧ (s17 3014) ≤ 32768 := hS17 3014
    refine tt_k 1 (S' := (53, [some (.inr (.inl 30)), some (.inl x16)], [.inl x16], n, D, s17, p, c)) rfl ?_
    exact tt_rti rfl rfl ⟨s17, x16, rfl, rfl, hS17, (fr_tr (fr_tr fr_rf f3 (by decide)) f19 (by decide)), by omega, by show s 3050 ≠ 0 → (s17 3050) ≠ 0; omega, by show (s17 3050) = 0 → s 3049 + 2 ≤ (s17 3049) ∧ (s17 3049) ≤ s 3014; omega, by show s 3049 ≤ (s17 3049); omega⟩
  · show tt Zi d 187 (12, [some (.inr (.inl 30)), some (.inl r2)], [], n, D, s1, p, c) _
    refine tt_k 2 (S' := (16, [some (.inr (.inl 30)), some (.inl r2)], [.inl 255, .inl r2], n, D, s1, p, c)) rfl ?_
    refine tb_eq (x := r2) (y := 255) rfl rfl (by omega) (fun h26 => ?_) (fun h26 => ?_)
    · show tt Zi d 187 (30, [some (.inr (.inl 30)), some (.inl r2)], [], n, D, s1, p, c) _
      refine k_nextMark_L30 (Zi := Zi) (D := D) (s := s1) (p := p) (c := c) hd hS1 hC ((s1 3049))   ?_ _ r2 s1 (by omega) hS1 fr_rf (Int.le_refl _) (fun h => h) (show (s1 3050) = 0 → (((s1 3049)) + 1 ≤ (s1 3049) ∨ r2 = 255) ∧ (s1 3049) ≤ (s1 3014) by omega) (Nat.lt_succ_self _)
      intro x27 s28 b29 hS28 f30 i31 i32 i33 hx34
      show tt Zi d 187 (52, [some (.inr (.inl 30)), some (.inl x27)], [], n, D, s28, p, c) _
      have e35 : s28 3014 = (s1 3014) := (f30 3014 (by decide))
      have b36 : 0 ≤ (s28 3014) ∧ (s28 3014) ≤ 32768 := hS28 3014
      refine tt_k 1 (S' := (53, [some (.inr (.inl 30)), some (.inl x27)], [.inl x27], n, D, s28, p, c)) rfl ?_
      exact tt_rti rfl rfl ⟨s28, x27, rfl, rfl, hS28, (fr_tr (fr_tr fr_rf f3 (by decide)) f30 (by decide)), by omega, by show s 3050 ≠ 0 → (s28 3050) ≠ 0; omega, by show (s28 3050) = 0 → s 3049 + 2 ≤ (s28 3049) ∧ (s28 3049) ≤ s 3014; omega, by show s 3049 ≤ (s28 3049); omega⟩
    · show tt Zi d 187 (19, [some (.inr (.inl 30)), some (.inl r2)], [], n, D, s1, p, c) _
      refine tt_k 6 (S' := (27, [some (.inr (.inl 30)), some (.inl r2)], [.inl ((s1 3049) - 1), .inl 2, .inr (.inl 30)], n, D, s1, p, c)) rfl ?_
      refine tt_cl (by omega) rfl (k_fail (Zi := Zi) (D := D) (s := s1) (p := p) (c := c) (by omega) hS1 hC 2 ((s1 3049) - 1) (by omega) (by omega)) ?_
      rintro _ _ ⟨s37, rfl, rfl, hS37, f38, k39, k40⟩
      show tt Zi d 187 (30, [some (.inr (.inl 30)), some (.inl r2)], [], n, D, s37, p, c) _
      have k39 : ((s1 3050) = 0 → (s37 3050) = 2 ∧ (s37 3051) = ((s1 3049) - 1)) := k39
      have k40 : ((s1 3050) ≠ 0 → (s37 3050) = (s1 3050) ∧ (s37 3051) = (s1 3051)) := k40
      have b41 : 0 ≤ (s37 3050) ∧ (s37 3050) ≤ 8 := hS37 3050
      have b42 : -1 ≤ (s37 3051) ∧ (s37 3051) ≤ 32769 := hS37 3051
      have b43 : -1 ≤ (s1 3051) ∧ (s1 3051) ≤ 32769 := hS1 3051
      have e44 : s37 3049 = (s1 3049) := (f38 3049 (by decide))
      have b45 : 0 ≤ (s37 3049) ∧ (s37 3049) ≤ 32769 := hS37 3049
      have e46 : s37 3014 = (s1 3014) := (f38 3014 (by decide))
      have b47 : 0 ≤ (s37 3014) ∧ (s37 3014) ≤ 32768 := hS37 3014
      refine k_nextMark_L30 (Zi := Zi) (D := D) (s := s37) (p := p) (c := c) hd hS37 hC ((s37 3049))   ?_ _ r2 s37 (by omega) hS37 fr_rf (Int.le_refl _) (fun h => h) (show (s37 3050) = 0 → (((s37 3049)) + 1 ≤ (s37 3049) ∨ r2 = 255) ∧ (s37 3049) ≤ (s37 3014) by omega) (Nat.lt_succ_self _)
      intro x48 s49 b50 hS49 f51 i52 i53 i54 hx55
      show tt Zi d 187 (52, [some (.inr (.inl 30)), some (.inl x48)], [], n, D, s49, p, c) _
      have e56 : s49 3014 = (s37 3014) := (f51 3014 (by decide))
      have b57 : 0 ≤ (s49 3014) ∧ (s49 3014) ≤ 32768 := hS49 3014
      refine tt_k 1 (S' := (53, [some (.inr (.inl 30)), some (.inl x48)], [.inl x48], n, D, s49, p, c)) rfl ?_
      exact tt_rti rfl rfl ⟨s49, x48, rfl, rfl, hS49, (fr_tr (fr_tr (fr_tr fr_rf f3 (by decide)) f38 (by decide)) f51 (by decide)), by omega, by show s 3050 ≠ 0 → (s49 3050) ≠ 0; omega, by show (s49 3050) = 0 → s 3049 + 2 ≤ (s49 3049) ∧ (s49 3049) ≤ s 3014; omega, by show s 3049 ≤ (s49 3049); omega⟩
set_option maxRecDepth 100000 in
set_option maxHeartbeats 4000000 in
theorem k_comes {Zi : Nat → Option (Nat × (Nat → Int))} {d n : Nat} {D : Nat → Nat × Nat} {s : Nat → Int} {p : Nat → Nat} {c : Nat → Nat → Int} (hd : 1 ≤ d) (hS : bS s) (hC : bC D c) (v : Int) (b_v : 0 ≤ v ∧ v ≤ 255) : tt Zi d 189 (0, [some (.inr (.inl 30)), some (.inl v)], [], n, D, s, p, c) (fun R H => ∃ (r : Int), R = .inl (some (.inl r)) ∧ H = (n, D, s, p, c) ∧ (0 ≤ r ∧ r ≤ 1) ∧ (r = 1 → v = 247 → s 3059 = 0) ∧ (r = 1 → v = 218 → s 3061 < s 3059) ∧ (r = 1 → v = 217 → 0 < s 3059)) := by
  refine tt_k 1 (S' := (1, [some (.inr (.inl 30)), some (.inl v)], [.inl v], n, D, s, p, c)) rfl ?_
  by_cases h1 : v = 217
  · have h2 := h1
    refine tt_lsw (x := v) (off := 72) rfl (by omega) (by decide) (by rw [h1]; rfl) rfl ?_
    show tt Zi d 189 (73, [some (.inr (.inl 30)), some (.inl v)], [], n, D, s, p, c) _
    refine tt_k 2 (S' := (77, [some (.inr (.inl 30)), some (.inl v)], [.inl (s 3059)], n, D, s, p, c)) rfl ?_
    have b3 : 0 ≤ (s 3059) ∧ (s 3059) ≤ 3 := hS 3059
    refine tz_le (x := (s 3059)) rfl rfl (by omega) (fun h4 => ?_) (fun h4 => ?_)
    · show tt Zi d 189 (95, [some (.inr (.inl 30)), some (.inl v)], [], n, D, s, p, c) _
      refine tt_k 1 (S' := (96, [some (.inr (.inl 30)), some (.inl v)], [.inl 0], n, D, s, p, c)) rfl ?_
      exact tt_rtb rfl rfl (by omega) ⟨0, rfl, rfl, by omega, by show 0 = 1 → v = 247 → s 3059 = 0; omega, by show 0 = 1 → v = 218 → s 3061 < s 3059; omega, by show 0 = 1 → v = 217 → 0 < s 3059; omega⟩
    · show tt Zi d 189 (80, [some (.inr (.inl 30)), some (.inl v)], [], n, D, s, p, c) _
      refine tt_k 4 (S' := (88, [some (.inr (.inl 30)), some (.inl v)], [.inl (s 3059), .inl (s 3061)], n, D, s, p, c)) rfl ?_
      have b5 : 0 ≤ (s 3061) ∧ (s 3061) ≤ 3 := hS 3061
      refine tb_ne (x := (s 3061)) (y := (s 3059)) rfl rfl (by omega) (fun h6 => ?_) (fun h6 => ?_)
      · show tt Zi d 189 (95, [some (.inr (.inl 30)), some (.inl v)], [], n, D, s, p, c) _
        refine tt_k 1 (S' := (96, [some (.inr (.inl 30)), some (.inl v)], [.inl 0], n, D, s, p, c)) rfl ?_
        exact tt_rtb rfl rfl (by omega) ⟨0, rfl, rfl, by omega, by show 0 = 1 → v = 247 → s 3059 = 0; omega, by show 0 = 1 → v = 218 → s 3061 < s 3059; omega, by show 0 = 1 → v = 217 → 0 < s 3059; omega⟩
      · show tt Zi d 189 (91, [some (.inr (.inl 30)), some (.inl v)], [], n, D, s, p, c) _
        refine tt_k 2 (S' := (96, [some (.inr (.inl 30)), some (.inl v)], [.inl 1], n, D, s, p, c)) rfl ?_
        exact tt_rtb rfl rfl (by omega) ⟨1, rfl, rfl, by omega, by show 1 = 1 → v = 247 → s 3059 = 0; omega, by show 1 = 1 → v = 218 → s 3061 < s 3059; omega, by show 1 = 1 → v = 217 → 0 < s 3059; omega⟩
  by_cases h7 : v = 218
  · have h8 := h7
    refine tt_lsw (x := v) (off := 48) rfl (by omega) (by decide) (by rw [h7]; rfl) rfl ?_
    show tt Zi d 189 (49, [some (.inr (.inl 30)), some (.inl v)], [], n, D, s, p, c) _
    refine tt_k 2 (S' := (53, [some (.inr (.inl 30)), some (.inl v)], [.inl (s 3059)], n, D, s, p, c)) rfl ?_
    have b9 : 0 ≤ (s 3059) ∧ (s 3059) ≤ 3 := hS 3059
    refine tz_le (x := (s 3059)) rfl rfl (by omega) (fun h10 => ?_) (fun h10 => ?_)
    · show tt Zi d 189 (71, [some (.inr (.inl 30)), some (.inl v)], [], n, D, s, p, c) _
      refine tt_k 1 (S' := (72, [some (.inr (.inl 30)), some (.inl v)], [.inl 0], n, D, s, p, c)) rfl ?_
      exact tt_rtb rfl rfl (by omega) ⟨0, rfl, rfl, by omega, by show 0 = 1 → v = 247 → s 3059 = 0; omega, by show 0 = 1 → v = 218 → s 3061 < s 3059; omega, by show 0 = 1 → v = 217 → 0 < s 3059; omega⟩
    · show tt Zi d 189 (56, [some (.inr (.inl 30)), some (.inl v)], [], n, D, s, p, c) _
      refine tt_k 4 (S' := (64, [some (.inr (.inl 30)), some (.inl v)], [.inl (s 3059), .inl (s 3061)], n, D, s, p, c)) rfl ?_
      have b11 : 0 ≤ (s 3061) ∧ (s 3061) ≤ 3 := hS 3061
      refine tb_ge (x := (s 3061)) (y := (s 3059)) rfl rfl (by omega) (fun h12 => ?_) (fun h12 => ?_)
      · show tt Zi d 189 (71, [some (.inr (.inl 30)), some (.inl v)], [], n, D, s, p, c) _
        refine tt_k 1 (S' := (72, [some (.inr (.inl 30)), some (.inl v)], [.inl 0], n, D, s, p, c)) rfl ?_
        exact tt_rtb rfl rfl (by omega) ⟨0, rfl, rfl, by omega, by show 0 = 1 → v = 247 → s 3059 = 0; omega, by show 0 = 1 → v = 218 → s 3061 < s 3059; omega, by show 0 = 1 → v = 217 → 0 < s 3059; omega⟩
      · show tt Zi d 189 (67, [some (.inr (.inl 30)), some (.inl v)], [], n, D, s, p, c) _
        refine tt_k 2 (S' := (72, [some (.inr (.inl 30)), some (.inl v)], [.inl 1], n, D, s, p, c)) rfl ?_
        exact tt_rtb rfl rfl (by omega) ⟨1, rfl, rfl, by omega, by show 1 = 1 → v = 247 → s 3059 = 0; omega, by show 1 = 1 → v = 218 → s 3061 < s 3059; omega, by show 1 = 1 → v = 217 → 0 < s 3059; omega⟩
  by_cases h13 : v = 247
  · have h14 := h13
    refine tt_lsw (x := v) (off := 35) rfl (by omega) (by decide) (by rw [h13]; rfl) rfl ?_
    show tt Zi d 189 (36, [some (.inr (.inl 30)), some (.inl v)], [], n, D, s, p, c) _
    refine tt_k 2 (S' := (40, [some (.inr (.inl 30)), some (.inl v)], [.inl (s 3059)], n, D, s, p, c)) rfl ?_
    have b15 : 0 ≤ (s 3059) ∧ (s 3059) ≤ 3 := hS 3059
    refine tz_ne (x := (s 3059)) rfl rfl (by omega) (fun h16 => ?_) (fun h16 => ?_)
    · show tt Zi d 189 (47, [some (.inr (.inl 30)), some (.inl v)], [], n, D, s, p, c) _
      refine tt_k 1 (S' := (48, [some (.inr (.inl 30)), some (.inl v)], [.inl 0], n, D, s, p, c)) rfl ?_
      exact tt_rtb rfl rfl (by omega) ⟨0, rfl, rfl, by omega, by show 0 = 1 → v = 247 → s 3059 = 0; omega, by show 0 = 1 → v = 218 → s 3061 < s 3059; omega, by show 0 = 1 → v = 217 → 0 < s 3059; omega⟩
    · show tt Zi d 189 (43, [some (.inr (.inl 30)), some (.inl v)], [], n, D, s, p, c) _
      refine tt_k 2 (S' := (48, [some (.inr (.inl 30)), some (.inl v)], [.inl 1], n, D, s, p, c)) rfl ?_
      exact tt_rtb rfl rfl (by omega) ⟨1, rfl, rfl, by omega, by show 1 = 1 → v = 247 → s 3059 = 0; omega, by show 1 = 1 → v = 218 → s 3061 < s 3059; omega, by show 1 = 1 → v = 217 → 0 < s 3059; omega⟩
  refine tt_lsw (x := v) (off := 96) rfl (by omega) (by decide) (lsw_d h1 h7 h13) rfl ?_
  show tt Zi d 189 (97, [some (.inr (.inl 30)), some (.inl v)], [], n, D, s, p, c) _
  refine tt_k 2 (S' := (101, [some (.inr (.inl 30)), some (.inl v)], [.inl 248, .inl v], n, D, s, p, c)) rfl ?_
  refine tb_eq (x := v) (y := 248) rfl rfl (by omega) (fun h17 => ?_) (fun h17 => ?_)
  · show tt Zi d 189 (124, [some (.inr (.inl 30)), some (.inl v)], [], n, D, s, p, c) _
    refine tt_k 2 (S' := (129, [some (.inr (.inl 30)), some (.inl v)], [.inl 1], n, D, s, p, c)) rfl ?_
    exact tt_rtb rfl rfl (by omega) ⟨1, rfl, rfl, by omega, by show 1 = 1 → v = 247 → s 3059 = 0; omega, by show 1 = 1 → v = 218 → s 3061 < s 3059; omega, by show 1 = 1 → v = 217 → 0 < s 3059; omega⟩
  · show tt Zi d 189 (104, [some (.inr (.inl 30)), some (.inl v)], [], n, D, s, p, c) _
    refine tt_k 2 (S' := (108, [some (.inr (.inl 30)), some (.inl v)], [.inl 254, .inl v], n, D, s, p, c)) rfl ?_
    refine tb_eq (x := v) (y := 254) rfl rfl (by omega) (fun h18 => ?_) (fun h18 => ?_)
    · show tt Zi d 189 (124, [some (.inr (.inl 30)), some (.inl v)], [], n, D, s, p, c) _
      refine tt_k 2 (S' := (129, [some (.inr (.inl 30)), some (.inl v)], [.inl 1], n, D, s, p, c)) rfl ?_
      exact tt_rtb rfl rfl (by omega) ⟨1, rfl, rfl, by omega, by show 1 = 1 → v = 247 → s 3059 = 0; omega, by show 1 = 1 → v = 218 → s 3061 < s 3059; omega, by show 1 = 1 → v = 217 → 0 < s 3059; omega⟩
    · show tt Zi d 189 (111, [some (.inr (.inl 30)), some (.inl v)], [], n, D, s, p, c) _
      refine tt_k 3 (S' := (118, [some (.inr (.inl 30)), some (.inl v)], [.inl 239, .inl 224, .inl v], n, D, s, p, c)) rfl ?_
      refine tt_cl (by omega) rfl (k_isIn (Zi := Zi) (D := D) (s := s) (p := p) (c := c) (by omega) hS hC v 224 239 (by omega) (by omega) (by omega)) ?_
      rintro _ _ ⟨r19, rfl, rfl, b20, k21⟩
      show tt Zi d 189 (121, [some (.inr (.inl 30)), some (.inl v)], [.inl r19], n, D, s, p, c) _
      have k21 : r19 = if 224 ≤ v ∧ v ≤ 239 then (1 : Int) else 0 := k21
      subst k21
      show tt Zi d 189 (121, [some (.inr (.inl 30)), some (.inl v)], [.inl (if 224 ≤ v ∧ v ≤ 239 then (1 : Int) else 0)], n, D, s, p, c) _
      refine tz_eq (x := (if 224 ≤ v ∧ v ≤ 239 then (1 : Int) else 0)) rfl rfl (by omega) (fun h22 => ?_) (fun h22 => ?_)
      · show tt Zi d 189 (128, [some (.inr (.inl 30)), some (.inl v)], [], n, D, s, p, c) _
        refine tt_k 1 (S' := (129, [some (.inr (.inl 30)), some (.inl v)], [.inl 0], n, D, s, p, c)) rfl ?_
        exact tt_rtb rfl rfl (by omega) ⟨0, rfl, rfl, by omega, by show 0 = 1 → v = 247 → s 3059 = 0; omega, by show 0 = 1 → v = 218 → s 3061 < s 3059; omega, by show 0 = 1 → v = 217 → 0 < s 3059; omega⟩
      · show tt Zi d 189 (124, [some (.inr (.inl 30)), some (.inl v)], [], n, D, s, p, c) _
        refine tt_k 2 (S' := (129, [some (.inr (.inl 30)), some (.inl v)], [.inl 1], n, D, s, p, c)) rfl ?_
        exact tt_rtb rfl rfl (by omega) ⟨1, rfl, rfl, by omega, by show 1 = 1 → v = 247 → s 3059 = 0; omega, by show 1 = 1 → v = 218 → s 3061 < s 3059; omega, by show 1 = 1 → v = 217 → 0 < s 3059; omega⟩
set_option maxRecDepth 100000 in
set_option maxHeartbeats 4000000 in
theorem k_beginPlane_L2 {Zi : Nat → Option (Nat × (Nat → Int))} {d n : Nat} {D : Nat → Nat × Nat} {s : Nat → Int} {p : Nat → Nat} {c : Nat → Nat → Int}  {Q : mi_Rs → mi_H → Prop} (hd : 1 ≤ d) (hS : bS s) (hC : bC D c) (hq0 : 1 ≤ s 3024 ∧ s 3024 ≤ 65536)
  (hK : ∀ (k : Int) (c0 : Nat → Nat → Int) (b_k : 0 ≤ k ∧ k ≤ 367) (hC0 : bC D c0) (hG0 : frc c c0 [36, 37, 38, 39]) (i0 : ∀ i : Nat, (i : Int) < k → c0 36 i = max 2 ((s 3024 + 32) / 64)) (i1 : ∀ i : Nat, (i : Int) < k → c0 37 i = 0) (i2 : ∀ i : Nat, (i : Int) < k → c0 38 i = 0) (i3 : ∀ i : Nat, (i : Int) < k → c0 39 i = 1), k = 367 → tt Zi d 151 (56, [some (.inr (.inl 30)), some (.inl k)], [], n, D, s, p, c0) Q) :
  ∀ (m : Nat) (k : Int) (c0 : Nat → Nat → Int) (b_k : 0 ≤ k ∧ k ≤ 367) (hC0 : bC D c0) (hG0 : frc c c0 [36, 37, 38, 39]) (i0 : ∀ i : Nat, (i : Int) < k → c0 36 i = max 2 ((s 3024 + 32) / 64)) (i1 : ∀ i : Nat, (i : Int) < k → c0 37 i = 0) (i2 : ∀ i : Nat, (i : Int) < k → c0 38 i = 0) (i3 : ∀ i : Nat, (i : Int) < k → c0 39 i = 1), (367 - k).toNat < m → tt Zi d 151 (2, [some (.inr (.inl 30)), some (.inl k)], [], n, D, s, p, c0) Q := by
  intro m
  induction m with
  | zero => intro k c0 b_k hC0 hG0 i0 i1 i2 i3 hm; exact absurd hm (by omega)
  | succ m ih =>
    intro k c0 b_k hC0 hG0 i0 i1 i2 i3 hm
    refine tt_k 2 (S' := (6, [some (.inr (.inl 30)), some (.inl k)], [.inl 367, .inl k], n, D, s, p, c0)) rfl ?_
    refine tb_ge (x := k) (y := 367) rfl rfl (by omega) (fun h1 => ?_) (fun h1 => ?_)
    · show tt Zi d 151 (56, [some (.inr (.inl 30)), some (.inl k)], [], n, D, s, p, c0) _
      exact hK k c0 (by omega) hC0 hG0 i0 i1 i2 i3 (by omega)
    · show tt Zi d 151 (9, [some (.inr (.inl 30)), some (.inl k)], [], n, D, s, p, c0) _
      refine tt_k 9 (S' := (24, [some (.inr (.inl 30)), some (.inl k)], [.inl 64, .inl ((s 3024) + 32), .inl 2, .inl k, .inr (.inl 36)], n, D, s, p, c0)) rfl ?_
      have b2 : -2147483648 ≤ (s 3024) ∧ (s 3024) ≤ 2147483647 := hS 3024
      refine tt_dvp (x := ((s 3024) + 32)) (y := 64) rfl (by omega) ?_
      show tt Zi d 151 (25, [some (.inr (.inl 30)), some (.inl k)], [.inl ((((s 3024) + 32) / 64)), .inl 2, .inl k, .inr (.inl 36)], n, D, s, p, c0) _
      refine tt_cl (by omega) rfl (k_more (Zi := Zi) (D := D) (s := s) (p := p) (c := c0) (by omega) hS hC0 2 ((((s 3024) + 32) / 64)) (by omega) (by omega)) ?_
      rintro _ _ ⟨r3, rfl, rfl, b4, k5⟩
      show tt Zi d 151 (28, [some (.inr (.inl 30)), some (.inl k)], [.inl r3, .inl k, .inr (.inl 36)], n, D, s, p, c0) _
      have k5 : r3 = max 2 ((((s 3024) + 32) / 64)) := k5
      subst k5
      show tt Zi d 151 (28, [some (.inr (.inl 30)), some (.inl k)], [.inl ((max 2 ((((s 3024) + 32) / 64)))), .inl k, .inr (.inl 36)], n, D, s, p, c0) _
      refine tt_ist (i := k) (x := (max 2 ((((s 3024) + 32) / 64)))) rfl rfl (by omega) ?_
      show tt Zi d 151 (29, [some (.inr (.inl 30)), some (.inl k)], [], n, D, s, p, (uc c0 36 (ua (c0 36) (k).toNat ((max 2 ((((s 3024) + 32) / 64))))))) _
      refine tt_k 4 (S' := (35, [some (.inr (.inl 30)), some (.inl k)], [.inl 0, .inl k, .inr (.inl 37)], n, D, s, p, (uc c0 36 (ua (c0 36) (k).toNat ((max 2 ((((s 3024) + 32) / 64)))))))) rfl ?_
      refine tt_ist (i := k) (x := 0) rfl rfl (by omega) ?_
      show tt Zi d 151 (36, [some (.inr (.inl 30)), some (.inl k)], [], n, D, s, p, (uc (uc c0 36 (ua (c0 36) (k).toNat ((max 2 ((((s 3024) + 32) / 64)))))) 37 (ua (c0 37) (k).toNat 0))) _
      refine tt_k 4 (S' := (42, [some (.inr (.inl 30)), some (.inl k)], [.inl 0, .inl k, .inr (.inl 38)], n, D, s, p, (uc (uc c0 36 (ua (c0 36) (k).toNat ((max 2 ((((s 3024) + 32) / 64)))))) 37 (ua (c0 37) (k).toNat 0)))) rfl ?_
      refine tt_ist (i := k) (x := 0) rfl rfl (by omega) ?_
      show tt Zi d 151 (43, [some (.inr (.inl 30)), some (.inl k)], [], n, D, s, p, (uc (uc (uc c0 36 (ua (c0 36) (k).toNat ((max 2 ((((s 3024) + 32) / 64)))))) 37 (ua (c0 37) (k).toNat 0)) 38 (ua (c0 38) (k).toNat 0))) _
      refine tt_k 4 (S' := (49, [some (.inr (.inl 30)), some (.inl k)], [.inl 1, .inl k, .inr (.inl 39)], n, D, s, p, (uc (uc (uc c0 36 (ua (c0 36) (k).toNat ((max 2 ((((s 3024) + 32) / 64)))))) 37 (ua (c0 37) (k).toNat 0)) 38 (ua (c0 38) (k).toNat 0)))) rfl ?_
      refine tt_ist (i := k) (x := 1) rfl rfl (by omega) ?_
      show tt Zi d 151 (50, [some (.inr (.inl 30)), some (.inl k)], [], n, D, s, p, (uc (uc (uc (uc c0 36 (ua (c0 36) (k).toNat ((max 2 ((((s 3024) + 32) / 64)))))) 37 (ua (c0 37) (k).toNat 0)) 38 (ua (c0 38) (k).toNat 0)) 39 (ua (c0 39) (k).toNat 1))) _
      refine tt_k 2 (S' := (2, [some (.inr (.inl 30)), some (.inl (k + 1))], [], n, D, s, p, (uc (uc (uc (uc c0 36 (ua (c0 36) (k).toNat ((max 2 ((((s 3024) + 32) / 64)))))) 37 (ua (c0 37) (k).toNat 0)) 38 (ua (c0 38) (k).toNat 0)) 39 (ua (c0 39) (k).toNat 1)))) rfl ?_
      exact ih (k + 1) (uc (uc (uc (uc c0 36 (ua (c0 36) (k).toNat ((max 2 ((((s 3024) + 32) / 64)))))) 37 (ua (c0 37) (k).toNat 0)) 38 (ua (c0 38) (k).toNat 0)) 39 (ua (c0 39) (k).toNat 1)) (by omega) (bC_st (bC_st (bC_st (bC_st hC0 (show -2147483648 ≤ (max 2 ((((s 3024) + 32) / 64))) ∧ (max 2 ((((s 3024) + 32) / 64))) ≤ 2147483647 by omega)) (show -2147483648 ≤ 0 ∧ 0 ≤ 2147483647 by omega)) (show -2147483648 ≤ 0 ∧ 0 ≤ 2147483647 by omega)) (show -2147483648 ≤ 1 ∧ 1 ≤ 2147483647 by omega)) (frc_uc (by decide) (frc_uc (by decide) (frc_uc (by decide) (frc_uc (by decide) hG0)))) (ua_all i0 (by omega)) (ua_all i1 (by omega)) (ua_all i2 (by omega)) (ua_all i3 (by omega)) (show (367 - (k + 1)).toNat < m by omega)
set_option maxRecDepth 100000 in
set_option maxHeartbeats 4000000 in
theorem k_beginPlane {Zi : Nat → Option (Nat × (Nat → Int))} {d n : Nat} {D : Nat → Nat × Nat} {s : Nat → Int} {p : Nat → Nat} {c : Nat → Nat → Int} (hd : 1 ≤ d) (hS : bS s) (hC : bC D c) (hp0 : 1 ≤ s 3024 ∧ s 3024 ≤ 65536) : tt Zi d 151 (0, [some (.inr (.inl 30)), none], [], n, D, s, p, c) (fun R H => ∃ (s' : Nat → Int) (c' : Nat → Nat → Int), R = .inl none ∧ H = (n, D, s', p, c') ∧ bS s' ∧ bC D c' ∧ fr s s' [3035] ∧ frc c c' [36, 37, 38, 39] ∧ (∀ i : Nat, (i : Int) < 367 → c' 36 i = max 2 ((s 3024 + 32) / 64)) ∧ (∀ i : Nat, (i : Int) < 367 → c' 37 i = 0) ∧ (∀ i : Nat, (i : Int) < 367 → c' 38 i = 0) ∧ (∀ i : Nat, (i : Int) < 367 → c' 39 i = 1) ∧ (s' 3035 = 0)) := by
  refine tt_k 2 (S' := (2, [some (.inr (.inl 30)), some (.inl 0)], [], n, D, s, p, c)) rfl ?_
  have b1 : -2147483648 ≤ (s 3024) ∧ (s 3024) ≤ 2147483647 := hS 3024
  refine k_beginPlane_L2 (Zi := Zi) (D := D) (s := s) (p := p) (c := c) hd hS hC   (show 1 ≤ (s 3024) ∧ (s 3024) ≤ 65536 by omega) ?_ _ 0 c (by omega) hC frc_rf (fun i hi => absurd hi (by omega)) (fun i hi => absurd hi (by omega)) (fun i hi => absurd hi (by omega)) (fun i hi => absurd hi (by omega)) (Nat.lt_succ_self _)
  intro x2 c3 b4 hC3 g5 i6 i7 i8 i9 hx10
  show tt Zi d 151 (56, [some (.inr (.inl 30)), some (.inl x2)], [], n, D, s, p, c3) _
  refine tt_k 3 (S' := (61, [some (.inr (.inl 30)), some (.inl x2)], [], n, D, (us s 3035 0), p, c3)) rfl ?_
  exact tt_rtv rfl rfl ⟨(us s 3035 0), c3, rfl, rfl, (bS_us hS (show 0 ≤ 0 ∧ 0 ≤ 31 by omega)), hC3, (fr_us (by decide) fr_rf), (frc_tr frc_rf g5 (by decide)), fun i hi => i6 i (by omega), fun i hi => i7 i (by omega), fun i hi => i8 i (by omega), fun i hi => i9 i (by omega), rfl⟩
set_option maxRecDepth 100000 in
set_option maxHeartbeats 4000000 in
theorem k_keep_L2 {Zi : Nat → Option (Nat × (Nat → Int))} {d n : Nat} {D : Nat → Nat × Nat} {s : Nat → Int} {p : Nat → Nat} {c : Nat → Nat → Int}  {Q : mi_Rs → mi_H → Prop} (hd : 0 ≤ d) (hS : bS s) (hC : bC D c) 
  (hK : ∀ (k : Int) (c0 : Nat → Nat → Int) (b_k : 0 ≤ k ∧ k ≤ 367) (hC0 : bC D c0) (hG0 : frc c c0 [40, 41, 42, 43]), k = 367 → tt Zi d 176 (63, [some (.inr (.inl 30)), some (.inl k)], [], n, D, s, p, c0) Q) :
  ∀ (m : Nat) (k : Int) (c0 : Nat → Nat → Int) (b_k : 0 ≤ k ∧ k ≤ 367) (hC0 : bC D c0) (hG0 : frc c c0 [40, 41, 42, 43]), (367 - k).toNat < m → tt Zi d 176 (2, [some (.inr (.inl 30)), some (.inl k)], [], n, D, s, p, c0) Q := by
  intro m
  induction m with
  | zero => intro k c0 b_k hC0 hG0 hm; exact absurd hm (by omega)
  | succ m ih =>
    intro k c0 b_k hC0 hG0 hm
    refine tt_k 2 (S' := (6, [some (.inr (.inl 30)), some (.inl k)], [.inl 367, .inl k], n, D, s, p, c0)) rfl ?_
    refine tb_ge (x := k) (y := 367) rfl rfl (by omega) (fun h1 => ?_) (fun h1 => ?_)
    · show tt Zi d 176 (63, [some (.inr (.inl 30)), some (.inl k)], [], n, D, s, p, c0) _
      exact hK k c0 (by omega) hC0 hG0 (by omega)
    · show tt Zi d 176 (9, [some (.inr (.inl 30)), some (.inl k)], [], n, D, s, p, c0) _
      refine tt_k 6 (S' := (19, [some (.inr (.inl 30)), some (.inl k)], [.inl k, .inr (.inl 36), .inl k, .inr (.inl 40)], n, D, s, p, c0)) rfl ?_
      refine tt_ildv (i := k) (v := (c0 36 (k).toNat)) rfl rfl (by omega) rfl ?_
      show tt Zi d 176 (20, [some (.inr (.inl 30)), some (.inl k)], [.inl (c0 36 (k).toNat), .inl k, .inr (.inl 40)], n, D, s, p, c0) _
      have b2 : -2147483648 ≤ (c0 36 (k).toNat) ∧ (c0 36 (k).toNat) ≤ 2147483647 := hC0 36 _
      refine tt_ist (i := k) (x := (c0 36 (k).toNat)) rfl rfl (by omega) ?_
      show tt Zi d 176 (21, [some (.inr (.inl 30)), some (.inl k)], [], n, D, s, p, (uc c0 40 (ua (c0 40) (k).toNat (c0 36 (k).toNat)))) _
      refine tt_k 6 (S' := (31, [some (.inr (.inl 30)), some (.inl k)], [.inl k, .inr (.inl 37), .inl k, .inr (.inl 41)], n, D, s, p, (uc c0 40 (ua (c0 40) (k).toNat (c0 36 (k).toNat))))) rfl ?_
      refine tt_ildv (i := k) (v := (c0 37 (k).toNat)) rfl rfl (by omega) rfl ?_
      show tt Zi d 176 (32, [some (.inr (.inl 30)), some (.inl k)], [.inl (c0 37 (k).toNat), .inl k, .inr (.inl 41)], n, D, s, p, (uc c0 40 (ua (c0 40) (k).toNat (c0 36 (k).toNat)))) _
      have b3 : -2147483648 ≤ (c0 37 (k).toNat) ∧ (c0 37 (k).toNat) ≤ 2147483647 := hC0 37 _
      refine tt_ist (i := k) (x := (c0 37 (k).toNat)) rfl rfl (by omega) ?_
      show tt Zi d 176 (33, [some (.inr (.inl 30)), some (.inl k)], [], n, D, s, p, (uc (uc c0 40 (ua (c0 40) (k).toNat (c0 36 (k).toNat))) 41 (ua (c0 41) (k).toNat (c0 37 (k).toNat)))) _
      refine tt_k 6 (S' := (43, [some (.inr (.inl 30)), some (.inl k)], [.inl k, .inr (.inl 38), .inl k, .inr (.inl 42)], n, D, s, p, (uc (uc c0 40 (ua (c0 40) (k).toNat (c0 36 (k).toNat))) 41 (ua (c0 41) (k).toNat (c0 37 (k).toNat))))) rfl ?_
      refine tt_ildv (i := k) (v := (c0 38 (k).toNat)) rfl rfl (by omega) rfl ?_
      show tt Zi d 176 (44, [some (.inr (.inl 30)), some (.inl k)], [.inl (c0 38 (k).toNat), .inl k, .inr (.inl 42)], n, D, s, p, (uc (uc c0 40 (ua (c0 40) (k).toNat (c0 36 (k).toNat))) 41 (ua (c0 41) (k).toNat (c0 37 (k).toNat)))) _
      have b4 : -2147483648 ≤ (c0 38 (k).toNat) ∧ (c0 38 (k).toNat) ≤ 2147483647 := hC0 38 _
      refine tt_ist (i := k) (x := (c0 38 (k).toNat)) rfl rfl (by omega) ?_
      show tt Zi d 176 (45, [some (.inr (.inl 30)), some (.inl k)], [], n, D, s, p, (uc (uc (uc c0 40 (ua (c0 40) (k).toNat (c0 36 (k).toNat))) 41 (ua (c0 41) (k).toNat (c0 37 (k).toNat))) 42 (ua (c0 42) (k).toNat (c0 38 (k).toNat)))) _
      refine tt_k 6 (S' := (55, [some (.inr (.inl 30)), some (.inl k)], [.inl k, .inr (.inl 39), .inl k, .inr (.inl 43)], n, D, s, p, (uc (uc (uc c0 40 (ua (c0 40) (k).toNat (c0 36 (k).toNat))) 41 (ua (c0 41) (k).toNat (c0 37 (k).toNat))) 42 (ua (c0 42) (k).toNat (c0 38 (k).toNat))))) rfl ?_
      refine tt_ildv (i := k) (v := (c0 39 (k).toNat)) rfl rfl (by omega) rfl ?_
      show tt Zi d 176 (56, [some (.inr (.inl 30)), some (.inl k)], [.inl (c0 39 (k).toNat), .inl k, .inr (.inl 43)], n, D, s, p, (uc (uc (uc c0 40 (ua (c0 40) (k).toNat (c0 36 (k).toNat))) 41 (ua (c0 41) (k).toNat (c0 37 (k).toNat))) 42 (ua (c0 42) (k).toNat (c0 38 (k).toNat)))) _
      have b5 : -2147483648 ≤ (c0 39 (k).toNat) ∧ (c0 39 (k).toNat) ≤ 2147483647 := hC0 39 _
      refine tt_ist (i := k) (x := (c0 39 (k).toNat)) rfl rfl (by omega) ?_
      show tt Zi d 176 (57, [some (.inr (.inl 30)), some (.inl k)], [], n, D, s, p, (uc (uc (uc (uc c0 40 (ua (c0 40) (k).toNat (c0 36 (k).toNat))) 41 (ua (c0 41) (k).toNat (c0 37 (k).toNat))) 42 (ua (c0 42) (k).toNat (c0 38 (k).toNat))) 43 (ua (c0 43) (k).toNat (c0 39 (k).toNat)))) _
      refine tt_k 2 (S' := (2, [some (.inr (.inl 30)), some (.inl (k + 1))], [], n, D, s, p, (uc (uc (uc (uc c0 40 (ua (c0 40) (k).toNat (c0 36 (k).toNat))) 41 (ua (c0 41) (k).toNat (c0 37 (k).toNat))) 42 (ua (c0 42) (k).toNat (c0 38 (k).toNat))) 43 (ua (c0 43) (k).toNat (c0 39 (k).toNat))))) rfl ?_
      exact ih (k + 1) (uc (uc (uc (uc c0 40 (ua (c0 40) (k).toNat (c0 36 (k).toNat))) 41 (ua (c0 41) (k).toNat (c0 37 (k).toNat))) 42 (ua (c0 42) (k).toNat (c0 38 (k).toNat))) 43 (ua (c0 43) (k).toNat (c0 39 (k).toNat))) (by omega) (bC_st (bC_st (bC_st (bC_st hC0 (show -2147483648 ≤ (c0 36 (k).toNat) ∧ (c0 36 (k).toNat) ≤ 2147483647 by omega)) (show -2147483648 ≤ (c0 37 (k).toNat) ∧ (c0 37 (k).toNat) ≤ 2147483647 by omega)) (show -2147483648 ≤ (c0 38 (k).toNat) ∧ (c0 38 (k).toNat) ≤ 2147483647 by omega)) (show -2147483648 ≤ (c0 39 (k).toNat) ∧ (c0 39 (k).toNat) ≤ 2147483647 by omega)) (frc_uc (by decide) (frc_uc (by decide) (frc_uc (by decide) (frc_uc (by decide) hG0)))) (show (367 - (k + 1)).toNat < m by omega)
set_option maxRecDepth 100000 in
set_option maxHeartbeats 4000000 in
theorem k_keep {Zi : Nat → Option (Nat × (Nat → Int))} {d n : Nat} {D : Nat → Nat × Nat} {s : Nat → Int} {p : Nat → Nat} {c : Nat → Nat → Int} (hd : 0 ≤ d) (hS : bS s) (hC : bC D c)  : tt Zi d 176 (0, [some (.inr (.inl 30)), none], [], n, D, s, p, c) (fun R H => ∃ (c' : Nat → Nat → Int), R = .inl none ∧ H = (n, D, s, p, c') ∧ bC D c' ∧ frc c c' [40, 41, 42, 43]) := by
  refine tt_k 2 (S' := (2, [some (.inr (.inl 30)), some (.inl 0)], [], n, D, s, p, c)) rfl ?_
  refine k_keep_L2 (Zi := Zi) (D := D) (s := s) (p := p) (c := c) hd hS hC    ?_ _ 0 c (by omega) hC frc_rf (Nat.lt_succ_self _)
  intro x1 c2 b3 hC2 g4 hx5
  show tt Zi d 176 (63, [some (.inr (.inl 30)), some (.inl x1)], [], n, D, s, p, c2) _
  exact tt_rtv rfl rfl ⟨c2, rfl, rfl, hC2, (frc_tr frc_rf g4 (by decide))⟩
set_option maxRecDepth 100000 in
set_option maxHeartbeats 4000000 in
theorem k_fill_L3 {Zi : Nat → Option (Nat × (Nat → Int))} {d n : Nat} {D : Nat → Nat × Nat} {s : Nat → Int} {p : Nat → Nat} {c : Nat → Nat → Int}  {Q : mi_Rs → mi_H → Prop} (hd : 0 ≤ d) (hS : bS s) (hC : bC D c) (x : Int) (y : Int) (n_ : Int) (v : Int) (b_x : 0 ≤ x ∧ x ≤ 64) (b_y : 0 ≤ y ∧ y ≤ 63) (b_n_ : 0 ≤ n_ ∧ n_ ≤ 64) (b_v : 0 ≤ v ∧ v ≤ 65535) (hq0 : x + n_ ≤ 64)
  (hK : ∀ (k : Int) (c0 : Nat → Nat → Int) (b_k : 0 ≤ k ∧ k ≤ 64) (hC0 : bC D c0) (hG0 : frc c c0 [44]) (i0 : k ≤ n_) (i1 : ∀ i : Nat, (i : Int) < s 3039 + 64 * y + x ∨ s 3039 + 64 * y + x + k ≤ i → c0 44 i = c 44 i) (i2 : ∀ i : Nat, s 3039 + 64 * y + x ≤ i → (i : Int) < s 3039 + 64 * y + x + k → c0 44 i = v), k = n_ → tt Zi d 157 (36, [some (.inr (.inl 30)), some (.inl x), some (.inl y), some (.inl n_), some (.inl v), some (.inl k)], [], n, D, s, p, c0) Q) :
  ∀ (m : Nat) (k : Int) (c0 : Nat → Nat → Int) (b_k : 0 ≤ k ∧ k ≤ 64) (hC0 : bC D c0) (hG0 : frc c c0 [44]) (i0 : k ≤ n_) (i1 : ∀ i : Nat, (i : Int) < s 3039 + 64 * y + x ∨ s 3039 + 64 * y + x + k ≤ i → c0 44 i = c 44 i) (i2 : ∀ i : Nat, s 3039 + 64 * y + x ≤ i → (i : Int) < s 3039 + 64 * y + x + k → c0 44 i = v), (n_ - k).toNat < m → tt Zi d 157 (3, [some (.inr (.inl 30)), some (.inl x), some (.inl y), some (.inl n_), some (.inl v), some (.inl k)], [], n, D, s, p, c0) Q := by
  intro m
  induction m with
  | zero => intro k c0 b_k hC0 hG0 i0 i1 i2 hm; exact absurd hm (by omega)
  | succ m ih =>
    intro k c0 b_k hC0 hG0 i0 i1 i2 hm
    refine tt_k 2 (S' := (6, [some (.inr (.inl 30)), some (.inl x), some (.inl y), some (.inl n_), some (.inl v), some (.inl k)], [.inl n_, .inl k], n, D, s, p, c0)) rfl ?_
    refine tb_ge (x := k) (y := n_) rfl rfl (by omega) (fun h1 => ?_) (fun h1 => ?_)
    · show tt Zi d 157 (36, [some (.inr (.inl 30)), some (.inl x), some (.inl y), some (.inl n_), some (.inl v), some (.inl k)], [], n, D, s, p, c0) _
      exact hK k c0 (by omega) hC0 hG0 i0 i1 i2 (by omega)
    · show tt Zi d 157 (9, [some (.inr (.inl 30)), some (.inl x), some (.inl y), some (.inl n_), some (.inl v), some (.inl k)], [], n, D, s, p, c0) _
      refine tt_k 13 (S' := (29, [some (.inr (.inl 30)), some (.inl x), some (.inl y), some (.inl n_), some (.inl v), some (.inl k)], [.inl v, .inl (((((s 3039) + (64 * y)) + x) + k)), .inr (.inl 44)], n, D, s, p, c0)) rfl ?_
      have b2 : 0 ≤ (s 3039) ∧ (s 3039) ≤ 8192 := hS 3039
      refine tt_ist (i := ((((s 3039) + (64 * y)) + x) + k)) (x := v) rfl rfl (by omega) ?_
      show tt Zi d 157 (30, [some (.inr (.inl 30)), some (.inl x), some (.inl y), some (.inl n_), some (.inl v), some (.inl k)], [], n, D, s, p, (uc c0 44 (ua (c0 44) (((((s 3039) + (64 * y)) + x) + k)).toNat v))) _
      refine tt_k 2 (S' := (3, [some (.inr (.inl 30)), some (.inl x), some (.inl y), some (.inl n_), some (.inl v), some (.inl (k + 1))], [], n, D, s, p, (uc c0 44 (ua (c0 44) (((((s 3039) + (64 * y)) + x) + k)).toNat v)))) rfl ?_
      exact ih (k + 1) (uc c0 44 (ua (c0 44) (((((s 3039) + (64 * y)) + x) + k)).toNat v)) (by omega) (bC_st hC0 (show 0 ≤ v ∧ v ≤ 65535 by omega)) (frc_uc (by decide) hG0) (show (k + 1) ≤ n_ by omega) (fun i hi => (ua_ne (by omega)).trans (i1 i (by omega))) (ua_seg i2 (by omega)) (show (n_ - (k + 1)).toNat < m by omega)
set_option maxRecDepth 100000 in
set_option maxHeartbeats 4000000 in
theorem k_fill {Zi : Nat → Option (Nat × (Nat → Int))} {d n : Nat} {D : Nat → Nat × Nat} {s : Nat → Int} {p : Nat → Nat} {c : Nat → Nat → Int} (hd : 0 ≤ d) (hS : bS s) (hC : bC D c) (x : Int) (y : Int) (n_ : Int) (v : Int) (b_x : 0 ≤ x ∧ x ≤ 64) (b_y : 0 ≤ y ∧ y ≤ 63) (b_n_ : 0 ≤ n_ ∧ n_ ≤ 64) (b_v : 0 ≤ v ∧ v ≤ 65535) (hp0 : x + n_ ≤ 64) : tt Zi d 157 (0, [some (.inr (.inl 30)), some (.inl x), some (.inl y), some (.inl n_), some (.inl v), none], [], n, D, s, p, c) (fun R H => ∃ (c' : Nat → Nat → Int), R = .inl none ∧ H = (n, D, s, p, c') ∧ bC D c' ∧ frc c c' [44] ∧ (∀ i : Nat, (i : Int) < s 3039 + 64 * y + x ∨ s 3039 + 64 * y + x + n_ ≤ i → c' 44 i = c 44 i) ∧ (∀ i : Nat, s 3039 + 64 * y + x ≤ i → (i : Int) < s 3039 + 64 * y + x + n_ → c' 44 i = v)) := by
  refine tt_k 2 (S' := (3, [some (.inr (.inl 30)), some (.inl x), some (.inl y), some (.inl n_), some (.inl v), some (.inl 0)], [], n, D, s, p, c)) rfl ?_
  refine k_fill_L3 (Zi := Zi) (D := D) (s := s) (p := p) (c := c) hd hS hC  x y n_ v (by omega) (by omega) (by omega) (by omega) (show x + n_ ≤ 64 by omega) ?_ _ 0 c (by omega) hC frc_rf (show 0 ≤ n_ by omega) (fun _ _ => rfl) (fun i h1 h2 => absurd h2 (by omega)) (Nat.lt_succ_self _)
  intro x1 c2 b3 hC2 g4 i5 i6 i7 hx8
  show tt Zi d 157 (36, [some (.inr (.inl 30)), some (.inl x), some (.inl y), some (.inl n_), some (.inl v), some (.inl x1)], [], n, D, s, p, c2) _
  exact tt_rtv rfl rfl ⟨c2, rfl, rfl, hC2, (frc_tr frc_rf g4 (by decide)), fun i hi => i6 i (by omega), fun i h1 h2 => i7 i h1 (by omega)⟩
set_option maxRecDepth 100000 in
set_option maxHeartbeats 4000000 in
theorem k_neighbours {Zi : Nat → Option (Nat × (Nat → Int))} {d n : Nat} {D : Nat → Nat × Nat} {s : Nat → Int} {p : Nat → Nat} {c : Nat → Nat → Int} (hd : 1 ≤ d) (hS : bS s) (hC : bC D c) (x : Int) (y : Int) (b_x : 0 ≤ x ∧ x ≤ 63) (b_y : 0 ≤ y ∧ y ≤ 63) (hp0 : x < s 3037) (hp1 : tb (s 3037) (s 3039) (s 3017) (c 44) x y) : tt Zi d 152 (0, [some (.inr (.inl 30)), some (.inl x), some (.inl y)], [], n, D, s, p, c) (fun R H => ∃ (s' : Nat → Int), R = .inl none ∧ H = (n, D, s', p, c) ∧ bS s' ∧ fr s s' [3041, 3042, 3043, 3044] ∧ ((0 ≤ s' 3041 ∧ s' 3041 ≤ s 3017) ∧ (0 ≤ s' 3042 ∧ s' 3042 ≤ s 3017) ∧ (0 ≤ s' 3043 ∧ s' 3043 ≤ s 3017) ∧ (0 ≤ s' 3044 ∧ s' 3044 ≤ s 3017))) := by
  have b1 : 0 ≤ (s 3017) ∧ (s 3017) ≤ 65535 := hS 3017
  refine tt_k 2 (S' := (2, [some (.inr (.inl 30)), some (.inl x), some (.inl y)], [.inl y, .inr (.inl 30)], n, D, s, p, c)) rfl ?_
  have K3 : ∀ (j2 : Int) , (0 ≤ j2 ∧ j2 ≤ 65535) → (0 ≤ j2 ∧ j2 ≤ s 3017) → ((y ≤ 0 ∧ j2 = 0) ∨ (0 < y ∧ j2 = ((c 44) ((s 3039) + 64 * (y - 1) + x).toNat))) → tt Zi d 152 (17, [some (.inr (.inl 30)), some (.inl x), some (.inl y)], [.inl j2, .inr (.inl 30)], n, D, s, p, c) (fun R H => ∃ (s' : Nat → Int), R = .inl none ∧ H = (n, D, s', p, c) ∧ bS s' ∧ fr s s' [3041, 3042, 3043, 3044] ∧ ((0 ≤ s' 3041 ∧ s' 3041 ≤ s 3017) ∧ (0 ≤ s' 3042 ∧ s' 3042 ≤ s 3017) ∧ (0 ≤ s' 3043 ∧ s' 3043 ≤ s 3017) ∧ (0 ≤ s' 3044 ∧ s' 3044 ≤ s 3017))) := by
    intro j2 b5 b6 hj4
    have b7 : 0 ≤ (s 3039) ∧ (s 3039) ≤ 8192 := hS 3039
    refine tt_k 3 (S' := (22, [some (.inr (.inl 30)), some (.inl x), some (.inl y)], [.inl x, .inr (.inl 30)], n, D, (us s 3042 j2), p, c)) rfl ?_
    have K9 : ∀ (j8 : Int) , (0 ≤ j8 ∧ j8 ≤ 65535) → (0 ≤ j8 ∧ j8 ≤ s 3017) → ((x ≤ 0 ∧ j8 = j2) ∨ (0 < x ∧ j8 = ((c 44) ((s 3039) + 64 * y + (x - 1)).toNat))) → tt Zi d 152 (40, [some (.inr (.inl 30)), some (.inl x), some (.inl y)], [.inl j8, .inr (.inl 30)], n, D, (us s 3042 j2), p, c) (fun R H => ∃ (s' : Nat → Int), R = .inl none ∧ H = (n, D, s', p, c) ∧ bS s' ∧ fr s s' [3041, 3042, 3043, 3044] ∧ ((0 ≤ s' 3041 ∧ s' 3041 ≤ s 3017) ∧ (0 ≤ s' 3042 ∧ s' 3042 ≤ s 3017) ∧ (0 ≤ s' 3043 ∧ s' 3043 ≤ s 3017) ∧ (0 ≤ s' 3044 ∧ s' 3044 ≤ s 3017))) := by
      intro j8 b11 b12 hj10
      refine tt_k 3 (S' := (45, [some (.inr (.inl 30)), some (.inl x), some (.inl y)], [.inl x, .inr (.inl 30)], n, D, (us (us s 3042 j2) 3041 j8), p, c)) rfl ?_
      have K14 : ∀ (j13 : Int) , (0 ≤ j13 ∧ j13 ≤ 65535) → (0 ≤ j13 ∧ j13 ≤ s 3017) → ((x ≤ 0 ∧ y ≤ 1 ∧ j13 = 0) ∨ (x ≤ 0 ∧ 1 < y ∧ j13 = ((c 44) ((s 3039) + 64 * (y - 2) + 0).toNat)) ∨ (0 < x ∧ y ≤ 0 ∧ j13 = 0) ∨ (0 < x ∧ 0 < y ∧ j13 = ((c 44) ((s 3039) + 64 * (y - 1) + (x - 1)).toNat))) → tt Zi d 152 (86, [some (.inr (.inl 30)), some (.inl x), some (.inl y)], [.inl j13, .inr (.inl 30)], n, D, (us (us s 3042 j2) 3041 j8), p, c) (fun R H => ∃ (s' : Nat → Int), R = .inl none ∧ H = (n, D, s', p, c) ∧ bS s' ∧ fr s s' [3041, 3042, 3043, 3044] ∧ ((0 ≤ s' 3041 ∧ s' 3041 ≤ s 3017) ∧ (0 ≤ s' 3042 ∧ s' 3042 ≤ s 3017) ∧ (0 ≤ s' 3043 ∧ s' 3043 ≤ s 3017) ∧ (0 ≤ s' 3044 ∧ s' 3044 ≤ s 3017))) := by
        intro j13 b16 b17 hj15
        refine tt_k 3 (S' := (91, [some (.inr (.inl 30)), some (.inl x), some (.inl y)], [.inl y, .inr (.inl 30)], n, D, (us (us (us s 3042 j2) 3041 j8) 3043 j13), p, c)) rfl ?_
        have K19 : ∀ (j18 : Int) , (0 ≤ j18 ∧ j18 ≤ 65535) → (0 ≤ j18 ∧ j18 ≤ s 3017) → ((y ≠ 0 ∧ (s 3037) ≤ (x + 1) ∧ j18 = j2) ∨ (y ≠ 0 ∧ (x + 1) < (s 3037) ∧ j18 = ((c 44) ((s 3039) + 64 * (y - 1) + (x + 1)).toNat)) ∨ (y = 0 ∧ j18 = 0)) → tt Zi d 152 (125, [some (.inr (.inl 30)), some (.inl x), some (.inl y)], [.inl j18, .inr (.inl 30)], n, D, (us (us (us s 3042 j2) 3041 j8) 3043 j13), p, c) (fun R H => ∃ (s' : Nat → Int), R = .inl none ∧ H = (n, D, s', p, c) ∧ bS s' ∧ fr s s' [3041, 3042, 3043, 3044] ∧ ((0 ≤ s' 3041 ∧ s' 3041 ≤ s 3017) ∧ (0 ≤ s' 3042 ∧ s' 3042 ≤ s 3017) ∧ (0 ≤ s' 3043 ∧ s' 3043 ≤ s 3017) ∧ (0 ≤ s' 3044 ∧ s' 3044 ≤ s 3017))) := by
          intro j18 b21 b22 hj20
          have b23 : 0 ≤ (s 3037) ∧ (s 3037) ≤ 64 := hS 3037
          refine tt_k 1 (S' := (128, [some (.inr (.inl 30)), some (.inl x), some (.inl y)], [], n, D, (us (us (us (us s 3042 j2) 3041 j8) 3043 j13) 3044 j18), p, c)) rfl ?_
          exact tt_rtv rfl rfl ⟨(us (us (us (us s 3042 j2) 3041 j8) 3043 j13) 3044 j18), rfl, rfl, (bS_us (bS_us (bS_us (bS_us hS (show 0 ≤ j2 ∧ j2 ≤ 65535 by omega)) (show 0 ≤ j8 ∧ j8 ≤ 65535 by omega)) (show 0 ≤ j13 ∧ j13 ≤ 65535 by omega)) (show 0 ≤ j18 ∧ j18 ≤ 65535 by omega)), (fr_us (by decide) (fr_us (by decide) (fr_us (by decide) (fr_us (by decide) fr_rf)))), by show (0 ≤ j8 ∧ j8 ≤ s 3017) ∧ (0 ≤ j2 ∧ j2 ≤ s 3017) ∧ (0 ≤ j13 ∧ j13 ≤ s 3017) ∧ (0 ≤ j18 ∧ j18 ≤ s 3017); omega⟩
        refine tz_ne (x := y) rfl rfl (by omega) (fun h24 => ?_) (fun h24 => ?_)
        · show tt Zi d 152 (98, [some (.inr (.inl 30)), some (.inl x), some (.inl y)], [.inr (.inl 30)], n, D, (us (us (us s 3042 j2) 3041 j8) 3043 j13), p, c) _
          refine tt_k 5 (S' := (105, [some (.inr (.inl 30)), some (.inl x), some (.inl y)], [.inl (s 3037), .inl (x + 1), .inr (.inl 30)], n, D, (us (us (us s 3042 j2) 3041 j8) 3043 j13), p, c)) rfl ?_
          have b25 : 0 ≤ (s 3037) ∧ (s 3037) ≤ 64 := hS 3037
          refine tb_ge (x := (x + 1)) (y := (s 3037)) rfl rfl (by omega) (fun h26 => ?_) (fun h26 => ?_)
          · show tt Zi d 152 (121, [some (.inr (.inl 30)), some (.inl x), some (.inl y)], [.inr (.inl 30)], n, D, (us (us (us s 3042 j2) 3041 j8) 3043 j13), p, c) _
            refine tt_k 2 (S' := (125, [some (.inr (.inl 30)), some (.inl x), some (.inl y)], [.inl j2, .inr (.inl 30)], n, D, (us (us (us s 3042 j2) 3041 j8) 3043 j13), p, c)) rfl ?_
            exact K19 j2  (by omega) (by omega) (Or.inl ⟨h24, h26, rfl⟩)
          · show tt Zi d 152 (108, [some (.inr (.inl 30)), some (.inl x), some (.inl y)], [.inr (.inl 30)], n, D, (us (us (us s 3042 j2) 3041 j8) 3043 j13), p, c) _
            refine tt_k 7 (S' := (115, [some (.inr (.inl 30)), some (.inl x), some (.inl y)], [.inl (y - 1), .inl (x + 1), .inr (.inl 30), .inr (.inl 30)], n, D, (us (us (us s 3042 j2) 3041 j8) 3043 j13), p, c)) rfl ?_
            refine tt_cl (by omega) rfl (k_told (Zi := Zi) (D := D) (s := (us (us (us s 3042 j2) 3041 j8) 3043 j13)) (p := p) (c := c) (by omega) (bS_us (bS_us (bS_us hS (show 0 ≤ j2 ∧ j2 ≤ 65535 by omega)) (show 0 ≤ j8 ∧ j8 ≤ 65535 by omega)) (show 0 ≤ j13 ∧ j13 ≤ 65535 by omega)) hC (x + 1) (y - 1) (by omega) (by omega)) ?_
            rintro _ _ ⟨r27, rfl, rfl, b28, k29⟩
            show tt Zi d 152 (118, [some (.inr (.inl 30)), some (.inl x), some (.inl y)], [.inl r27, .inr (.inl 30)], n, D, (us (us (us s 3042 j2) 3041 j8) 3043 j13), p, c) _
            have k29 : r27 = (c 44) ((s 3039) + 64 * (y - 1) + (x + 1)).toNat := k29
            subst k29
            show tt Zi d 152 (118, [some (.inr (.inl 30)), some (.inl x), some (.inl y)], [.inl (((c 44) ((s 3039) + 64 * (y - 1) + (x + 1)).toNat)), .inr (.inl 30)], n, D, (us (us (us s 3042 j2) 3041 j8) 3043 j13), p, c) _
            have tb30 := hp1 (x + 1) (y - 1) (by omega) (by omega) (by omega) (by omega)
            refine tt_k 1 (S' := (125, [some (.inr (.inl 30)), some (.inl x), some (.inl y)], [.inl (((c 44) ((s 3039) + 64 * (y - 1) + (x + 1)).toNat)), .inr (.inl 30)], n, D, (us (us (us s 3042 j2) 3041 j8) 3043 j13), p, c)) rfl ?_
            exact K19 (((c 44) ((s 3039) + 64 * (y - 1) + (x + 1)).toNat))  (by omega) (by omega) (Or.inr (Or.inl ⟨h24, h26, rfl⟩))
        · show tt Zi d 152 (94, [some (.inr (.inl 30)), some (.inl x), some (.inl y)], [.inr (.inl 30)], n, D, (us (us (us s 3042 j2) 3041 j8) 3043 j13), p, c) _
          refine tt_k 2 (S' := (125, [some (.inr (.inl 30)), some (.inl x), some (.inl y)], [.inl 0, .inr (.inl 30)], n, D, (us (us (us s 3042 j2) 3041 j8) 3043 j13), p, c)) rfl ?_
          exact K19 0  (by omega) (by omega) (Or.inr (Or.inr (⟨h24, rfl⟩)))
      refine tz_le (x := x) rfl rfl (by omega) (fun h31 => ?_) (fun h31 => ?_)
      · show tt Zi d 152 (69, [some (.inr (.inl 30)), some (.inl x), some (.inl y)], [.inr (.inl 30)], n, D, (us (us s 3042 j2) 3041 j8), p, c) _
        refine tt_k 2 (S' := (71, [some (.inr (.inl 30)), some (.inl x), some (.inl y)], [.inl 1, .inl y, .inr (.inl 30)], n, D, (us (us s 3042 j2) 3041 j8), p, c)) rfl ?_
        refine tb_le (x := y) (y := 1) rfl rfl (by omega) (fun h32 => ?_) (fun h32 => ?_)
        · show tt Zi d 152 (85, [some (.inr (.inl 30)), some (.inl x), some (.inl y)], [.inr (.inl 30)], n, D, (us (us s 3042 j2) 3041 j8), p, c) _
          refine tt_k 1 (S' := (86, [some (.inr (.inl 30)), some (.inl x), some (.inl y)], [.inl 0, .inr (.inl 30)], n, D, (us (us s 3042 j2) 3041 j8), p, c)) rfl ?_
          exact K14 0  (by omega) (by omega) (Or.inl ⟨h31, h32, rfl⟩)
        · show tt Zi d 152 (74, [some (.inr (.inl 30)), some (.inl x), some (.inl y)], [.inr (.inl 30)], n, D, (us (us s 3042 j2) 3041 j8), p, c) _
          refine tt_k 5 (S' := (79, [some (.inr (.inl 30)), some (.inl x), some (.inl y)], [.inl (y - 2), .inl 0, .inr (.inl 30), .inr (.inl 30)], n, D, (us (us s 3042 j2) 3041 j8), p, c)) rfl ?_
          refine tt_cl (by omega) rfl (k_told (Zi := Zi) (D := D) (s := (us (us s 3042 j2) 3041 j8)) (p := p) (c := c) (by omega) (bS_us (bS_us hS (show 0 ≤ j2 ∧ j2 ≤ 65535 by omega)) (show 0 ≤ j8 ∧ j8 ≤ 65535 by omega)) hC 0 (y - 2) (by omega) (by omega)) ?_
          rintro _ _ ⟨r33, rfl, rfl, b34, k35⟩
          show tt Zi d 152 (82, [some (.inr (.inl 30)), some (.inl x), some (.inl y)], [.inl r33, .inr (.inl 30)], n, D, (us (us s 3042 j2) 3041 j8), p, c) _
          have k35 : r33 = (c 44) ((s 3039) + 64 * (y - 2) + 0).toNat := k35
          subst k35
          show tt Zi d 152 (82, [some (.inr (.inl 30)), some (.inl x), some (.inl y)], [.inl (((c 44) ((s 3039) + 64 * (y - 2) + 0).toNat)), .inr (.inl 30)], n, D, (us (us s 3042 j2) 3041 j8), p, c) _
          have tb36 := hp1 0 (y - 2) (by omega) (by omega) (by omega) (by omega)
          refine tt_k 1 (S' := (86, [some (.inr (.inl 30)), some (.inl x), some (.inl y)], [.inl (((c 44) ((s 3039) + 64 * (y - 2) + 0).toNat)), .inr (.inl 30)], n, D, (us (us s 3042 j2) 3041 j8), p, c)) rfl ?_
          exact K14 (((c 44) ((s 3039) + 64 * (y - 2) + 0).toNat))  (by omega) (by omega) (Or.inr (Or.inl ⟨h31, h32, rfl⟩))
      · show tt Zi d 152 (48, [some (.inr (.inl 30)), some (.inl x), some (.inl y)], [.inr (.inl 30)], n, D, (us (us s 3042 j2) 3041 j8), p, c) _
        refine tt_k 1 (S' := (49, [some (.inr (.inl 30)), some (.inl x), some (.inl y)], [.inl y, .inr (.inl 30)], n, D, (us (us s 3042 j2) 3041 j8), p, c)) rfl ?_
        refine tz_le (x := y) rfl rfl (by omega) (fun h37 => ?_) (fun h37 => ?_)
        · show tt Zi d 152 (65, [some (.inr (.inl 30)), some (.inl x), some (.inl y)], [.inr (.inl 30)], n, D, (us (us s 3042 j2) 3041 j8), p, c) _
          refine tt_k 2 (S' := (86, [some (.inr (.inl 30)), some (.inl x), some (.inl y)], [.inl 0, .inr (.inl 30)], n, D, (us (us s 3042 j2) 3041 j8), p, c)) rfl ?_
          exact K14 0  (by omega) (by omega) (Or.inr (Or.inr (Or.inl ⟨h31, h37, rfl⟩)))
        · show tt Zi d 152 (52, [some (.inr (.inl 30)), some (.inl x), some (.inl y)], [.inr (.inl 30)], n, D, (us (us s 3042 j2) 3041 j8), p, c) _
          refine tt_k 7 (S' := (59, [some (.inr (.inl 30)), some (.inl x), some (.inl y)], [.inl (y - 1), .inl (x - 1), .inr (.inl 30), .inr (.inl 30)], n, D, (us (us s 3042 j2) 3041 j8), p, c)) rfl ?_
          refine tt_cl (by omega) rfl (k_told (Zi := Zi) (D := D) (s := (us (us s 3042 j2) 3041 j8)) (p := p) (c := c) (by omega) (bS_us (bS_us hS (show 0 ≤ j2 ∧ j2 ≤ 65535 by omega)) (show 0 ≤ j8 ∧ j8 ≤ 65535 by omega)) hC (x - 1) (y - 1) (by omega) (by omega)) ?_
          rintro _ _ ⟨r38, rfl, rfl, b39, k40⟩
          show tt Zi d 152 (62, [some (.inr (.inl 30)), some (.inl x), some (.inl y)], [.inl r38, .inr (.inl 30)], n, D, (us (us s 3042 j2) 3041 j8), p, c) _
          have k40 : r38 = (c 44) ((s 3039) + 64 * (y - 1) + (x - 1)).toNat := k40
          subst k40
          show tt Zi d 152 (62, [some (.inr (.inl 30)), some (.inl x), some (.inl y)], [.inl (((c 44) ((s 3039) + 64 * (y - 1) + (x - 1)).toNat)), .inr (.inl 30)], n, D, (us (us s 3042 j2) 3041 j8), p, c) _
          have tb41 := hp1 (x - 1) (y - 1) (by omega) (by omega) (by omega) (by omega)
          refine tt_k 1 (S' := (86, [some (.inr (.inl 30)), some (.inl x), some (.inl y)], [.inl (((c 44) ((s 3039) + 64 * (y - 1) + (x - 1)).toNat)), .inr (.inl 30)], n, D, (us (us s 3042 j2) 3041 j8), p, c)) rfl ?_
          exact K14 (((c 44) ((s 3039) + 64 * (y - 1) + (x - 1)).toNat))  (by omega) (by omega) (Or.inr (Or.inr (Or.inr (⟨h31, h37, rfl⟩))))
    refine tz_le (x := x) rfl rfl (by omega) (fun h42 => ?_) (fun h42 => ?_)
    · show tt Zi d 152 (36, [some (.inr (.inl 30)), some (.inl x), some (.inl y)], [.inr (.inl 30)], n, D, (us s 3042 j2), p, c) _
      refine tt_k 2 (S' := (40, [some (.inr (.inl 30)), some (.inl x), some (.inl y)], [.inl j2, .inr (.inl 30)], n, D, (us s 3042 j2), p, c)) rfl ?_
      exact K9 j2  (by omega) (by omega) (Or.inl ⟨h42, rfl⟩)
    · show tt Zi d 152 (25, [some (.inr (.inl 30)), some (.inl x), some (.inl y)], [.inr (.inl 30)], n, D, (us s 3042 j2), p, c) _
      refine tt_k 5 (S' := (30, [some (.inr (.inl 30)), some (.inl x), some (.inl y)], [.inl y, .inl (x - 1), .inr (.inl 30), .inr (.inl 30)], n, D, (us s 3042 j2), p, c)) rfl ?_
      refine tt_cl (by omega) rfl (k_told (Zi := Zi) (D := D) (s := (us s 3042 j2)) (p := p) (c := c) (by omega) (bS_us hS (show 0 ≤ j2 ∧ j2 ≤ 65535 by omega)) hC (x - 1) y (by omega) (by omega)) ?_
      rintro _ _ ⟨r43, rfl, rfl, b44, k45⟩
      show tt Zi d 152 (33, [some (.inr (.inl 30)), some (.inl x), some (.inl y)], [.inl r43, .inr (.inl 30)], n, D, (us s 3042 j2), p, c) _
      have k45 : r43 = (c 44) ((s 3039) + 64 * y + (x - 1)).toNat := k45
      subst k45
      show tt Zi d 152 (33, [some (.inr (.inl 30)), some (.inl x), some (.inl y)], [.inl (((c 44) ((s 3039) + 64 * y + (x - 1)).toNat)), .inr (.inl 30)], n, D, (us s 3042 j2), p, c) _
      have tb46 := hp1 (x - 1) y (by omega) (by omega) (by omega) (by omega)
      refine tt_k 1 (S' := (40, [some (.inr (.inl 30)), some (.inl x), some (.inl y)], [.inl (((c 44) ((s 3039) + 64 * y + (x - 1)).toNat)), .inr (.inl 30)], n, D, (us s 3042 j2), p, c)) rfl ?_
      exact K9 (((c 44) ((s 3039) + 64 * y + (x - 1)).toNat))  (by omega) (by omega) (Or.inr (⟨h42, rfl⟩))
  refine tz_le (x := y) rfl rfl (by omega) (fun h47 => ?_) (fun h47 => ?_)
  · show tt Zi d 152 (16, [some (.inr (.inl 30)), some (.inl x), some (.inl y)], [.inr (.inl 30)], n, D, s, p, c) _
    refine tt_k 1 (S' := (17, [some (.inr (.inl 30)), some (.inl x), some (.inl y)], [.inl 0, .inr (.inl 30)], n, D, s, p, c)) rfl ?_
    exact K3 0  (by omega) (by omega) (Or.inl ⟨h47, rfl⟩)
  · show tt Zi d 152 (5, [some (.inr (.inl 30)), some (.inl x), some (.inl y)], [.inr (.inl 30)], n, D, s, p, c) _
    refine tt_k 5 (S' := (10, [some (.inr (.inl 30)), some (.inl x), some (.inl y)], [.inl (y - 1), .inl x, .inr (.inl 30), .inr (.inl 30)], n, D, s, p, c)) rfl ?_
    refine tt_cl (by omega) rfl (k_told (Zi := Zi) (D := D) (s := s) (p := p) (c := c) (by omega) hS hC x (y - 1) (by omega) (by omega)) ?_
    rintro _ _ ⟨r48, rfl, rfl, b49, k50⟩
    show tt Zi d 152 (13, [some (.inr (.inl 30)), some (.inl x), some (.inl y)], [.inl r48, .inr (.inl 30)], n, D, s, p, c) _
    have k50 : r48 = (c 44) ((s 3039) + 64 * (y - 1) + x).toNat := k50
    subst k50
    show tt Zi d 152 (13, [some (.inr (.inl 30)), some (.inl x), some (.inl y)], [.inl (((c 44) ((s 3039) + 64 * (y - 1) + x).toNat)), .inr (.inl 30)], n, D, s, p, c) _
    have b51 : 0 ≤ (s 3039) ∧ (s 3039) ≤ 8192 := hS 3039
    have tb52 := hp1 x (y - 1) (by omega) (by omega) (by omega) (by omega)
    refine tt_k 1 (S' := (17, [some (.inr (.inl 30)), some (.inl x), some (.inl y)], [.inl (((c 44) ((s 3039) + 64 * (y - 1) + x).toNat)), .inr (.inl 30)], n, D, s, p, c)) rfl ?_
    exact K3 (((c 44) ((s 3039) + 64 * (y - 1) + x).toNat))  (by omega) (by omega) (Or.inr (⟨h47, rfl⟩))
