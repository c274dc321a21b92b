/-! the reference's writer -/
set_option maxRecDepth 100000 in
set_option maxHeartbeats 4000000 in
theorem k_putBit {Zi : Nat → Option (Nat × (Nat → Int))} {d n : Nat} {D : Nat → Nat × Nat} {s : Nat → Int} {p : Nat → Nat} {c : Nat → Nat → Int} (hd : 1 ≤ d) (hS : bS s) (hC : bC D c) (v : Int) (b_v : 0 ≤ v ∧ v ≤ 1) (hp0 : w_ok (s 3047) (s 3048)) (hp1 : w_u (s 3016) (s 3047) (s 3048) + 8 + v ≤ 4194304) : tt Zi d 159 (0, [some (.inr (.inl 30)), some (.inl v)], [], n, D, s, p, c) (fun R H => ∃ (s' : Nat → Int) (c' : Nat → Nat → Int), R = .inl none ∧ H = (n, D, s', p, c') ∧ bS s' ∧ bC D c' ∧ fr s s' [3016, 3047, 3048] ∧ frc c c' [35] ∧ (w_ok (s' 3047) (s' 3048)) ∧ (w_u (s' 3016) (s' 3047) (s' 3048) ≤ w_u (s 3016) (s 3047) (s 3048) + 8 + v) ∧ (s 3016 ≤ s' 3016)) := by
  have w1 := w_lo (size := s 3016) hp0
  refine tt_k 14 (S' := (22, [some (.inr (.inl 30)), some (.inl v)], [], n, D, (us (us s 3047 (((2 * (s 3047)) + v))) 3048 ((s 3048) - 1)), p, c)) rfl ?_
  refine tt_k 2 (S' := (26, [some (.inr (.inl 30)), some (.inl v)], [.inl ((s 3048) - 1)], n, D, (us (us s 3047 (((2 * (s 3047)) + v))) 3048 ((s 3048) - 1)), p, c)) rfl ?_
  have b2 : 0 ≤ (s 3048) ∧ (s 3048) ≤ 8 := hS 3048
  refine tz_ne (x := ((s 3048) - 1)) rfl rfl (by omega) (fun h3 => ?_) (fun h3 => ?_)
  · show tt Zi d 159 (63, [some (.inr (.inl 30)), some (.inl v)], [], n, D, (us (us s 3047 (((2 * (s 3047)) + v))) 3048 ((s 3048) - 1)), p, c) _
    have b4 : 0 ≤ (s 3047) ∧ (s 3047) ≤ 255 := hS 3047
    exact tt_rtv rfl rfl ⟨(us (us s 3047 (((2 * (s 3047)) + v))) 3048 ((s 3048) - 1)), c, rfl, rfl, (bS_us (bS_us hS (show 0 ≤ ((2 * (s 3047)) + v) ∧ ((2 * (s 3047)) + v) ≤ 255 by omega)) (show 0 ≤ ((s 3048) - 1) ∧ ((s 3048) - 1) ≤ 8 by omega)), hC, (fr_us (by decide) (fr_us (by decide) fr_rf)), frc_rf, by show w_ok ((((2 * (s 3047)) + v))) (((s 3048) - 1)); first | exact (w_bit1 (size := 0) hp0 b_v (by omega)).1 | exact w_ok0 (by omega), by show w_u ((s 3016)) ((((2 * (s 3047)) + v))) (((s 3048) - 1)) ≤ w_u (s 3016) (s 3047) (s 3048) + 8 + v; first | exact (w_bit1 hp0 b_v (by omega)).2 | exact w_bit3 hp0 (by omega) b_v (by omega) (by omega), by show s 3016 ≤ (s 3016); omega⟩
  · show tt Zi d 159 (29, [some (.inr (.inl 30)), some (.inl v)], [], n, D, (us (us s 3047 (((2 * (s 3047)) + v))) 3048 ((s 3048) - 1)), p, c) _
    refine tt_k 3 (S' := (34, [some (.inr (.inl 30)), some (.inl v)], [.inl (((2 * (s 3047)) + v)), .inr (.inl 30)], n, D, (us (us s 3047 (((2 * (s 3047)) + v))) 3048 ((s 3048) - 1)), p, c)) rfl ?_
    have b5 : 0 ≤ (s 3047) ∧ (s 3047) ≤ 255 := hS 3047
    have b6 : 0 ≤ (s 3016) ∧ (s 3016) ≤ 65536 := hS 3016
    refine tt_cl (by omega) rfl (k_add (Zi := Zi) (D := D) (s := (us (us s 3047 (((2 * (s 3047)) + v))) 3048 ((s 3048) - 1))) (p := p) (c := c) (by omega) (bS_us (bS_us hS (show 0 ≤ ((2 * (s 3047)) + v) ∧ ((2 * (s 3047)) + v) ≤ 255 by omega)) (show 0 ≤ ((s 3048) - 1) ∧ ((s 3048) - 1) ≤ 8 by omega)) hC (((2 * (s 3047)) + v)) (by omega) (show (s 3016) ≤ 65535 by omega)) ?_
    rintro _ _ ⟨s7, c8, rfl, rfl, hS7, hC8, f9, g10, k11, k12⟩
    show tt Zi d 159 (37, [some (.inr (.inl 30)), some (.inl v)], [], n, D, s7, p, c8) _
    have k11 : (s7 3016) = (s 3016) + 1 := k11
    have k12 : (c8 35) = ua ((c 35)) ((s 3016)).toNat (mi_nb (mi_i2b (((2 * (s 3047)) + v)))) := k12
    have b13 : 0 ≤ (s7 3016) ∧ (s7 3016) ≤ 65536 := hS7 3016
    have e14 : s7 3047 = ((2 * (s 3047)) + v) := (f9 3047 (by decide))
    have b15 : 0 ≤ (s7 3047) ∧ (s7 3047) ≤ 255 := hS7 3047
    have e16 : s7 3048 = ((s 3048) - 1) := (f9 3048 (by decide))
    have b17 : 0 ≤ (s7 3048) ∧ (s7 3048) ≤ 8 := hS7 3048
    refine tt_k 4 (S' := (45, [some (.inr (.inl 30)), some (.inl v)], [.inl 255, .inl (s7 3047), .inr (.inl 30)], n, D, s7, p, c8)) rfl ?_
    have K19 : ∀ (j18 : Int) , (7 ≤ j18 ∧ j18 ≤ 8) → (((s7 3047) ≠ 255 ∧ j18 = 8) ∨ ((s7 3047) = 255 ∧ j18 = 7)) → tt Zi d 159 (55, [some (.inr (.inl 30)), some (.inl v)], [.inl j18, .inr (.inl 30)], n, D, s7, p, c8) (fun R H => ∃ (s' : Nat → Int) (c' : Nat → Nat → Int), R = .inl none ∧ H = (n, D, s', p, c') ∧ bS s' ∧ bC D c' ∧ fr s s' [3016, 3047, 3048] ∧ frc c c' [35] ∧ (w_ok (s' 3047) (s' 3048)) ∧ (w_u (s' 3016) (s' 3047) (s' 3048) ≤ w_u (s 3016) (s 3047) (s 3048) + 8 + v) ∧ (s 3016 ≤ s' 3016)) := by
      intro j18 b21 hj20
      refine tt_k 4 (S' := (63, [some (.inr (.inl 30)), some (.inl v)], [], n, D, (us (us s7 3048 j18) 3047 0), p, c8)) rfl ?_
      exact tt_rtv rfl rfl ⟨(us (us s7 3048 j18) 3047 0), c8, rfl, rfl, (bS_us (bS_us hS7 (show 0 ≤ j18 ∧ j18 ≤ 8 by omega)) (show 0 ≤ 0 ∧ 0 ≤ 255 by omega)), hC8, (fr_us (by decide) (fr_us (by decide) (fr_tr (fr_us (by decide) (fr_us (by decide) fr_rf)) f9 (by decide)))), (frc_tr frc_rf g10 (by decide)), by show w_ok (0) (j18); first | exact (w_bit1 (size := 0) hp0 b_v (by omega)).1 | exact w_ok0 (by omega), by show w_u ((s7 3016)) (0) (j18) ≤ w_u (s 3016) (s 3047) (s 3048) + 8 + v; first | exact (w_bit1 hp0 b_v (by omega)).2 | exact w_bit3 hp0 (by omega) b_v (by omega) (by omega), by show s 3016 ≤ (s7 3016); omega⟩
    refine tb_ne (x := (s7 3047)) (y := 255) rfl rfl (by omega) (fun h22 => ?_) (fun h22 => ?_)
    · show tt Zi d 159 (53, [some (.inr (.inl 30)), some (.inl v)], [.inr (.inl 30)], n, D, s7, p, c8) _
      refine tt_k 1 (S' := (55, [some (.inr (.inl 30)), some (.inl v)], [.inl 8, .inr (.inl 30)], n, D, s7, p, c8)) rfl ?_
      exact K19 8  (by omega) (Or.inl ⟨h22, rfl⟩)
    · show tt Zi d 159 (48, [some (.inr (.inl 30)), some (.inl v)], [.inr (.inl 30)], n, D, s7, p, c8) _
      refine tt_k 2 (S' := (55, [some (.inr (.inl 30)), some (.inl v)], [.inl 7, .inr (.inl 30)], n, D, s7, p, c8)) rfl ?_
      exact K19 7  (by omega) (Or.inr (⟨h22, rfl⟩))
set_option maxRecDepth 100000 in
set_option maxHeartbeats 4000000 in
theorem k_putBits_L4 {Zi : Nat → Option (Nat × (Nat → Int))} {d n : Nat} {D : Nat → Nat × Nat} {s : Nat → Int} {p : Nat → Nat} {c : Nat → Nat → Int} {o_1 : Option mi_V} {Q : mi_Rs → mi_H → Prop} (hd : 2 ≤ d) (hS : bS s) (hC : bC D c) (U : Int) (hU : U ≤ 4194304) (v : Int) (b_v : -2147483648 ≤ v ∧ v ≤ 2147483647)
  (hK : ∀ (k : Int) (s0 : Nat → Int) (c0 : Nat → Nat → Int) (b_k : -1 ≤ k ∧ k ≤ 63) (hS0 : bS s0) (hF0 : fr s s0 [3016, 3047, 3048]) (hC0 : bC D c0) (hG0 : frc c c0 [35]) (i0 : w_ok (s0 3047) (s0 3048)) (i1 : w_u (s0 3016) (s0 3047) (s0 3048) + 8 * (k + 1) + (if v = 0 then 0 else k + 1) ≤ U) (i2 : s 3016 ≤ s0 3016), k = -1 → tt Zi d 160 (23, [some (.inr (.inl 30)), o_1, some (.inl v), some (.inl k)], [], n, D, s0, p, c0) Q) :
  ∀ (m : Nat) (k : Int) (s0 : Nat → Int) (c0 : Nat → Nat → Int) (b_k : -1 ≤ k ∧ k ≤ 63) (hS0 : bS s0) (hF0 : fr s s0 [3016, 3047, 3048]) (hC0 : bC D c0) (hG0 : frc c c0 [35]) (i0 : w_ok (s0 3047) (s0 3048)) (i1 : w_u (s0 3016) (s0 3047) (s0 3048) + 8 * (k + 1) + (if v = 0 then 0 else k + 1) ≤ U) (i2 : s 3016 ≤ s0 3016), (k + 1).toNat < m → tt Zi d 160 (4, [some (.inr (.inl 30)), o_1, some (.inl v), some (.inl k)], [], n, D, s0, p, c0) Q := by
  intro m
  induction m with
  | zero => intro k s0 c0 b_k hS0 hF0 hC0 hG0 i0 i1 i2 hm; exact absurd hm (by omega)
  | succ m ih =>
    intro k s0 c0 b_k hS0 hF0 hC0 hG0 i0 i1 i2 hm
    have hw0 := w_lo (size := s0 3016) i0
    have hz : v = 0 → mi_and (mi_shr v k) 1 = 0 := by intro hq; subst hq; rw [mi_and1, mi_shr0]; rfl
    refine tt_k 1 (S' := (5, [some (.inr (.inl 30)), o_1, some (.inl v), some (.inl k)], [.inl k], n, D, s0, p, c0)) rfl ?_
    refine tz_lt (x := k) rfl rfl (by omega) (fun h1 => ?_) (fun h1 => ?_)
    · show tt Zi d 160 (23, [some (.inr (.inl 30)), o_1, some (.inl v), some (.inl k)], [], n, D, s0, p, c0) _
      exact hK k s0 c0 (by omega) hS0 hF0 hC0 hG0 i0 (show w_u ((s0 3016)) ((s0 3047)) ((s0 3048)) + 8 * (k + 1) + (if v = 0 then 0 else k + 1) ≤ U by omega) (show s 3016 ≤ (s0 3016) by omega) (by omega)
    · show tt Zi d 160 (8, [some (.inr (.inl 30)), o_1, some (.inl v), some (.inl k)], [], n, D, s0, p, c0) _
      refine tt_k 6 (S' := (14, [some (.inr (.inl 30)), o_1, some (.inl v), some (.inl k)], [.inl (mi_and (mi_shr v k) 1), .inr (.inl 30)], n, D, s0, p, c0)) rfl ?_
      have e2 := mi_shr_bd v k
      have e3 := mi_and1 (mi_shr v k)
      have b4 : 0 ≤ (s0 3047) ∧ (s0 3047) ≤ 255 := hS0 3047
      have b5 : 0 ≤ (s0 3048) ∧ (s0 3048) ≤ 8 := hS0 3048
      have b6 : 0 ≤ (s0 3016) ∧ (s0 3016) ≤ 65536 := hS0 3016
      refine tt_cl (by omega) rfl (k_putBit (Zi := Zi) (D := D) (s := s0) (p := p) (c := c0) (by omega) hS0 hC0 (mi_and (mi_shr v k) 1) (by omega) i0 (show w_u ((s0 3016)) ((s0 3047)) ((s0 3048)) + 8 + (mi_and (mi_shr v k) 1) ≤ 4194304 by omega)) ?_
      rintro _ _ ⟨s7, c8, rfl, rfl, hS7, hC8, f9, g10, k11, k12, k13⟩
      show tt Zi d 160 (17, [some (.inr (.inl 30)), o_1, some (.inl v), some (.inl k)], [], n, D, s7, p, c8) _
      have k11 : w_ok ((s7 3047)) ((s7 3048)) := k11
      have k12 : w_u ((s7 3016)) ((s7 3047)) ((s7 3048)) ≤ w_u ((s0 3016)) ((s0 3047)) ((s0 3048)) + 8 + (mi_and (mi_shr v k) 1) := k12
      have k13 : (s0 3016) ≤ (s7 3016) := k13
      have b14 : 0 ≤ (s7 3047) ∧ (s7 3047) ≤ 255 := hS7 3047
      have b15 : 0 ≤ (s7 3048) ∧ (s7 3048) ≤ 8 := hS7 3048
      have b16 : 0 ≤ (s7 3016) ∧ (s7 3016) ≤ 65536 := hS7 3016
      refine tt_k 2 (S' := (4, [some (.inr (.inl 30)), o_1, some (.inl v), some (.inl (k + (-1)))], [], n, D, s7, p, c8)) rfl ?_
      exact ih (k + (-1)) s7 c8 (by omega) hS7 (fr_tr hF0 f9 (by decide)) hC8 (frc_tr hG0 g10 (by decide)) k11 (show w_u ((s7 3016)) ((s7 3047)) ((s7 3048)) + 8 * ((k + (-1)) + 1) + (if v = 0 then 0 else (k + (-1)) + 1) ≤ U by omega) (show s 3016 ≤ (s7 3016) by omega) (show ((k + (-1)) + 1).toNat < m by omega)
set_option maxRecDepth 100000 in
set_option maxHeartbeats 4000000 in
theorem k_putBits {Zi : Nat → Option (Nat × (Nat → Int))} {d n : Nat} {D : Nat → Nat × Nat} {s : Nat → Int} {p : Nat → Nat} {c : Nat → Nat → Int} (hd : 2 ≤ d) (hS : bS s) (hC : bC D c) (n_ : Int) (v : Int) (b_n_ : 0 ≤ n_ ∧ n_ ≤ 64) (b_v : -2147483648 ≤ v ∧ v ≤ 2147483647) (hp0 : w_ok (s 3047) (s 3048)) (hp1 : w_u (s 3016) (s 3047) (s 3048) + 8 * n_ + (if v = 0 then 0 else n_) ≤ 4194304) : tt Zi d 160 (0, [some (.inr (.inl 30)), some (.inl n_), some (.inl v), none], [], n, D, s, p, c) (fun R H => ∃ (s' : Nat → Int) (c' : Nat → Nat → Int), R = .inl none ∧ H = (n, D, s', p, c') ∧ bS s' ∧ bC D c' ∧ fr s s' [3016, 3047, 3048] ∧ frc c c' [35] ∧ (w_ok (s' 3047) (s' 3048)) ∧ (w_u (s' 3016) (s' 3047) (s' 3048) ≤ w_u (s 3016) (s 3047) (s 3048) + 8 * n_ + (if v = 0 then 0 else n_)) ∧ (s 3016 ≤ s' 3016)) := by
  refine tt_k 4 (S' := (4, [some (.inr (.inl 30)), some (.inl n_), some (.inl v), some (.inl (n_ - 1))], [], n, D, s, p, c)) rfl ?_
  refine k_putBits_L4 (Zi := Zi) (D := D) (s := s) (p := p) (c := c) hd hS hC (w_u (s 3016) (s 3047) (s 3048) + 8 * n_ + (if v = 0 then 0 else n_)) hp1 v (by omega) ?_ _ (n_ - 1) s c (by omega) hS fr_rf hC frc_rf hp0 (show w_u (((s 3016))) (((s 3047))) (((s 3048))) + 8 * ((n_ - 1) + 1) + (if v = 0 then 0 else (n_ - 1) + 1) ≤ (w_u (s 3016) (s 3047) (s 3048) + 8 * n_ + (if v = 0 then 0 else n_)) by omega) (Int.le_refl _) (Nat.lt_succ_self _)
  intro x1 s2 c3 b4 hS2 f5 hC3 g6 i7 i8 i9 hx10
  show tt Zi d 160 (23, [some (.inr (.inl 30)), some (.inl n_), some (.inl v), some (.inl x1)], [], n, D, s2, p, c3) _
  exact tt_rtv rfl rfl ⟨s2, c3, rfl, rfl, hS2, hC3, (fr_tr fr_rf f5 (by decide)), (frc_tr frc_rf g6 (by decide)), i7, by show w_u ((s2 3016)) ((s2 3047)) ((s2 3048)) ≤ w_u (s 3016) (s 3047) (s 3048) + 8 * n_ + (if v = 0 then 0 else n_); omega, by show s 3016 ≤ (s2 3016); omega⟩
set_option maxRecDepth 100000 in
set_option maxHeartbeats 4000000 in
theorem k_putNumber {Zi : Nat → Option (Nat × (Nat → Int))} {d n : Nat} {D : Nat → Nat × Nat} {s : Nat → Int} {p : Nat → Nat} {c : Nat → Nat → Int} (hd : 3 ≤ d) (hS : bS s) (hC : bC D c) (m_ : Int) (k_ : Int) (l_ : Int) (b_m_ : 0 ≤ m_ ∧ m_ ≤ 65536) (b_k_ : 0 ≤ k_ ∧ k_ ≤ 30) (b_l_ : 1 ≤ l_ ∧ l_ ≤ 65) (hp0 : w_ok (s 3047) (s 3048)) (hp1 : w_u (s 3016) (s 3047) (s 3048) + (if mi_shr m_ k_ < l_ - s 3025 - 1 then 8 * mi_shr m_ k_ + 9 + 9 * k_ else 8 * (l_ - s 3025 - 1) + 9 + 9 * s 3025) ≤ 4194304) (hp2 : 0 ≤ l_ - s 3025 - 1 ∧ l_ - s 3025 - 1 ≤ 64 ∧ s 3025 ≤ 30) : tt Zi d 164 (0, [some (.inr (.inl 30)), some (.inl m_), some (.inl k_), some (.inl l_), none], [], n, D, s, p, c) (fun R H => ∃ (s' : Nat → Int) (c' : Nat → Nat → Int), R = .inl none ∧ H = (n, D, s', p, c') ∧ bS s' ∧ bC D c' ∧ fr s s' [3016, 3047, 3048] ∧ frc c c' [35] ∧ (w_ok (s' 3047) (s' 3048)) ∧ (w_u (s' 3016) (s' 3047) (s' 3048) ≤ w_u (s 3016) (s 3047) (s 3048) + (if mi_shr m_ k_ < l_ - s 3025 - 1 then 8 * mi_shr m_ k_ + 9 + 9 * k_ else 8 * (l_ - s 3025 - 1) + 9 + 9 * s 3025)) ∧ (s 3016 ≤ s' 3016)) := by
  refine tt_k 11 (S' := (15, [some (.inr (.inl 30)), some (.inl m_), some (.inl k_), some (.inl l_), some (.inl (mi_shr m_ k_))], [.inl (((l_ - (s 3025)) - 1)), .inl (mi_shr m_ k_)], n, D, s, p, c)) rfl ?_
  have e1 := mi_shr_nn (x := m_) (k := k_) (by omega) (by omega)
  have b2 : 0 ≤ (s 3025) ∧ (s 3025) ≤ 31 := hS 3025
  refine tb_ge (x := (mi_shr m_ k_)) (y := ((l_ - (s 3025)) - 1)) rfl rfl (by omega) (fun h3 => ?_) (fun h3 => ?_)
  · show tt Zi d 164 (45, [some (.inr (.inl 30)), some (.inl m_), some (.inl k_), some (.inl l_), some (.inl (mi_shr m_ k_))], [], n, D, s, p, c) _
    refine tt_k 8 (S' := (55, [some (.inr (.inl 30)), some (.inl m_), some (.inl k_), some (.inl l_), some (.inl (mi_shr m_ k_))], [.inl 0, .inl (((l_ - (s 3025)) - 1)), .inr (.inl 30)], n, D, s, p, c)) rfl ?_
    have b4 : 0 ≤ (s 3047) ∧ (s 3047) ≤ 255 := hS 3047
    have b5 : 0 ≤ (s 3048) ∧ (s 3048) ≤ 8 := hS 3048
    have b6 : 0 ≤ (s 3016) ∧ (s 3016) ≤ 65536 := hS 3016
    refine tt_cl (by omega) rfl (k_putBits (Zi := Zi) (D := D) (s := s) (p := p) (c := c) (by omega) hS hC (((l_ - (s 3025)) - 1)) 0 (by omega) (by omega) hp0 (show w_u ((s 3016)) ((s 3047)) ((s 3048)) + 8 * (((l_ - (s 3025)) - 1)) + (if 0 = 0 then 0 else (((l_ - (s 3025)) - 1))) ≤ 4194304 by omega)) ?_
    rintro _ _ ⟨s7, c8, rfl, rfl, hS7, hC8, f9, g10, k11, k12, k13⟩
    show tt Zi d 164 (58, [some (.inr (.inl 30)), some (.inl m_), some (.inl k_), some (.inl l_), some (.inl (mi_shr m_ k_))], [], n, D, s7, p, c8) _
    have k11 : w_ok ((s7 3047)) ((s7 3048)) := k11
    have k12 : w_u ((s7 3016)) ((s7 3047)) ((s7 3048)) ≤ w_u ((s 3016)) ((s 3047)) ((s 3048)) + 8 * (((l_ - (s 3025)) - 1)) + (if 0 = 0 then 0 else (((l_ - (s 3025)) - 1))) := k12
    have k13 : (s 3016) ≤ (s7 3016) := k13
    have b14 : 0 ≤ (s7 3047) ∧ (s7 3047) ≤ 255 := hS7 3047
    have b15 : 0 ≤ (s7 3048) ∧ (s7 3048) ≤ 8 := hS7 3048
    have b16 : 0 ≤ (s7 3016) ∧ (s7 3016) ≤ 65536 := hS7 3016
    have e17 : s7 3025 = (s 3025) := (f9 3025 (by decide))
    have b18 : 0 ≤ (s7 3025) ∧ (s7 3025) ≤ 31 := hS7 3025
    refine tt_k 2 (S' := (60, [some (.inr (.inl 30)), some (.inl m_), some (.inl k_), some (.inl l_), some (.inl (mi_shr m_ k_))], [.inl 1, .inr (.inl 30)], n, D, s7, p, c8)) rfl ?_
    refine tt_cl (by omega) rfl (k_putBit (Zi := Zi) (D := D) (s := s7) (p := p) (c := c8) (by omega) hS7 hC8 1 (by omega) k11 (show w_u ((s7 3016)) ((s7 3047)) ((s7 3048)) + 8 + 1 ≤ 4194304 by omega)) ?_
    rintro _ _ ⟨s19, c20, rfl, rfl, hS19, hC20, f21, g22, k23, k24, k25⟩
    show tt Zi d 164 (63, [some (.inr (.inl 30)), some (.inl m_), some (.inl k_), some (.inl l_), some (.inl (mi_shr m_ k_))], [], n, D, s19, p, c20) _
    have k23 : w_ok ((s19 3047)) ((s19 3048)) := k23
    have k24 : w_u ((s19 3016)) ((s19 3047)) ((s19 3048)) ≤ w_u ((s7 3016)) ((s7 3047)) ((s7 3048)) + 8 + 1 := k24
    have k25 : (s7 3016) ≤ (s19 3016) := k25
    have b26 : 0 ≤ (s19 3047) ∧ (s19 3047) ≤ 255 := hS19 3047
    have b27 : 0 ≤ (s19 3048) ∧ (s19 3048) ≤ 8 := hS19 3048
    have b28 : 0 ≤ (s19 3016) ∧ (s19 3016) ≤ 65536 := hS19 3016
    have e29 : s19 3025 = (s7 3025) := (f21 3025 (by decide))
    have b30 : 0 ≤ (s19 3025) ∧ (s19 3025) ≤ 31 := hS19 3025
    refine tt_k 6 (S' := (71, [some (.inr (.inl 30)), some (.inl m_), some (.inl k_), some (.inl l_), some (.inl (mi_shr m_ k_))], [.inl (m_ - 1), .inl (s19 3025), .inr (.inl 30)], n, D, s19, p, c20)) rfl ?_
    refine tt_cl (by omega) rfl (k_putBits (Zi := Zi) (D := D) (s := s19) (p := p) (c := c20) (by omega) hS19 hC20 (s19 3025) (m_ - 1) (by omega) (by omega) k23 (show w_u ((s19 3016)) ((s19 3047)) ((s19 3048)) + 8 * (s19 3025) + (if (m_ - 1) = 0 then 0 else (s19 3025)) ≤ 4194304 by omega)) ?_
    rintro _ _ ⟨s31, c32, rfl, rfl, hS31, hC32, f33, g34, k35, k36, k37⟩
    show tt Zi d 164 (74, [some (.inr (.inl 30)), some (.inl m_), some (.inl k_), some (.inl l_), some (.inl (mi_shr m_ k_))], [], n, D, s31, p, c32) _
    have k35 : w_ok ((s31 3047)) ((s31 3048)) := k35
    have k36 : w_u ((s31 3016)) ((s31 3047)) ((s31 3048)) ≤ w_u ((s19 3016)) ((s19 3047)) ((s19 3048)) + 8 * (s19 3025) + (if (m_ - 1) = 0 then 0 else (s19 3025)) := k36
    have k37 : (s19 3016) ≤ (s31 3016) := k37
    have b38 : 0 ≤ (s31 3047) ∧ (s31 3047) ≤ 255 := hS31 3047
    have b39 : 0 ≤ (s31 3048) ∧ (s31 3048) ≤ 8 := hS31 3048
    have b40 : 0 ≤ (s31 3016) ∧ (s31 3016) ≤ 65536 := hS31 3016
    have e41 : s31 3025 = (s19 3025) := (f33 3025 (by decide))
    have b42 : 0 ≤ (s31 3025) ∧ (s31 3025) ≤ 31 := hS31 3025
    exact tt_rtv rfl rfl ⟨s31, c32, rfl, rfl, hS31, hC32, (fr_tr (fr_tr (fr_tr fr_rf f9 (by decide)) f21 (by decide)) f33 (by decide)), (frc_tr (frc_tr (frc_tr frc_rf g10 (by decide)) g22 (by decide)) g34 (by decide)), k35, by show w_u ((s31 3016)) ((s31 3047)) ((s31 3048)) ≤ w_u (s 3016) (s 3047) (s 3048) + (if mi_shr m_ k_ < l_ - s 3025 - 1 then 8 * mi_shr m_ k_ + 9 + 9 * k_ else 8 * (l_ - s 3025 - 1) + 9 + 9 * s 3025); omega, by show s 3016 ≤ (s31 3016); omega⟩
  · show tt Zi d 164 (18, [some (.inr (.inl 30)), some (.inl m_), some (.inl k_), some (.inl l_), some (.inl (mi_shr m_ k_))], [], n, D, s, p, c) _
    refine tt_k 3 (S' := (22, [some (.inr (.inl 30)), some (.inl m_), some (.inl k_), some (.inl l_), some (.inl (mi_shr m_ k_))], [.inl 0, .inl (mi_shr m_ k_), .inr (.inl 30)], n, D, s, p, c)) rfl ?_
    have b43 : 0 ≤ (s 3047) ∧ (s 3047) ≤ 255 := hS 3047
    have b44 : 0 ≤ (s 3048) ∧ (s 3048) ≤ 8 := hS 3048
    have b45 : 0 ≤ (s 3016) ∧ (s 3016) ≤ 65536 := hS 3016
    refine tt_cl (by omega) rfl (k_putBits (Zi := Zi) (D := D) (s := s) (p := p) (c := c) (by omega) hS hC (mi_shr m_ k_) 0 (by omega) (by omega) hp0 (show w_u ((s 3016)) ((s 3047)) ((s 3048)) + 8 * (mi_shr m_ k_) + (if 0 = 0 then 0 else (mi_shr m_ k_)) ≤ 4194304 by omega)) ?_
    rintro _ _ ⟨s46, c47, rfl, rfl, hS46, hC47, f48, g49, k50, k51, k52⟩
    show tt Zi d 164 (25, [some (.inr (.inl 30)), some (.inl m_), some (.inl k_), some (.inl l_), some (.inl (mi_shr m_ k_))], [], n, D, s46, p, c47) _
    have k50 : w_ok ((s46 3047)) ((s46 3048)) := k50
    have k51 : w_u ((s46 3016)) ((s46 3047)) ((s46 3048)) ≤ w_u ((s 3016)) ((s 3047)) ((s 3048)) + 8 * (mi_shr m_ k_) + (if 0 = 0 then 0 else (mi_shr m_ k_)) := k51
    have k52 : (s 3016) ≤ (s46 3016) := k52
    have b53 : 0 ≤ (s46 3047) ∧ (s46 3047) ≤ 255 := hS46 3047
    have b54 : 0 ≤ (s46 3048) ∧ (s46 3048) ≤ 8 := hS46 3048
    have b55 : 0 ≤ (s46 3016) ∧ (s46 3016) ≤ 65536 := hS46 3016
    have e56 : s46 3025 = (s 3025) := (f48 3025 (by decide))
    have b57 : 0 ≤ (s46 3025) ∧ (s46 3025) ≤ 31 := hS46 3025
    refine tt_k 2 (S' := (27, [some (.inr (.inl 30)), some (.inl m_), some (.inl k_), some (.inl l_), some (.inl (mi_shr m_ k_))], [.inl 1, .inr (.inl 30)], n, D, s46, p, c47)) rfl ?_
    refine tt_cl (by omega) rfl (k_putBit (Zi := Zi) (D := D) (s := s46) (p := p) (c := c47) (by omega) hS46 hC47 1 (by omega) k50 (show w_u ((s46 3016)) ((s46 3047)) ((s46 3048)) + 8 + 1 ≤ 4194304 by omega)) ?_
    rintro _ _ ⟨s58, c59, rfl, rfl, hS58, hC59, f60, g61, k62, k63, k64⟩
    show tt Zi d 164 (30, [some (.inr (.inl 30)), some (.inl m_), some (.inl k_), some (.inl l_), some (.inl (mi_shr m_ k_))], [], n, D, s58, p, c59) _
    have k62 : w_ok ((s58 3047)) ((s58 3048)) := k62
    have k63 : w_u ((s58 3016)) ((s58 3047)) ((s58 3048)) ≤ w_u ((s46 3016)) ((s46 3047)) ((s46 3048)) + 8 + 1 := k63
    have k64 : (s46 3016) ≤ (s58 3016) := k64
    have b65 : 0 ≤ (s58 3047) ∧ (s58 3047) ≤ 255 := hS58 3047
    have b66 : 0 ≤ (s58 3048) ∧ (s58 3048) ≤ 8 := hS58 3048
    have b67 : 0 ≤ (s58 3016) ∧ (s58 3016) ≤ 65536 := hS58 3016
    have e68 : s58 3025 = (s46 3025) := (f60 3025 (by decide))
    have b69 : 0 ≤ (s58 3025) ∧ (s58 3025) ≤ 31 := hS58 3025
    refine tt_k 9 (S' := (39, [some (.inr (.inl 30)), some (.inl m_), some (.inl k_), some (.inl l_), some (.inl (mi_shr m_ k_))], [.inl ((mi_and m_ ((mi_shl 1 k_) - 1))), .inl k_, .inr (.inl 30)], n, D, s58, p, c59)) rfl ?_
    have e70 : 1 ≤ (mi_shl 1 k_) ∧ (mi_shl 1 k_) ≤ 1073741824 := mi_shl1b 0 30 (by omega) (by omega) (by decide)
    have e71 := mi_and_rg m_ ((mi_shl 1 k_) - 1)
    refine tt_cl (by omega) rfl (k_putBits (Zi := Zi) (D := D) (s := s58) (p := p) (c := c59) (by omega) hS58 hC59 k_ ((mi_and m_ ((mi_shl 1 k_) - 1))) (by omega) (by omega) k62 (show w_u ((s58 3016)) ((s58 3047)) ((s58 3048)) + 8 * k_ + (if ((mi_and m_ ((mi_shl 1 k_) - 1))) = 0 then 0 else k_) ≤ 4194304 by omega)) ?_
    rintro _ _ ⟨s72, c73, rfl, rfl, hS72, hC73, f74, g75, k76, k77, k78⟩
    show tt Zi d 164 (42, [some (.inr (.inl 30)), some (.inl m_), some (.inl k_), some (.inl l_), some (.inl (mi_shr m_ k_))], [], n, D, s72, p, c73) _
    have k76 : w_ok ((s72 3047)) ((s72 3048)) := k76
    have k77 : w_u ((s72 3016)) ((s72 3047)) ((s72 3048)) ≤ w_u ((s58 3016)) ((s58 3047)) ((s58 3048)) + 8 * k_ + (if ((mi_and m_ ((mi_shl 1 k_) - 1))) = 0 then 0 else k_) := k77
    have k78 : (s58 3016) ≤ (s72 3016) := k78
    have b79 : 0 ≤ (s72 3047) ∧ (s72 3047) ≤ 255 := hS72 3047
    have b80 : 0 ≤ (s72 3048) ∧ (s72 3048) ≤ 8 := hS72 3048
    have b81 : 0 ≤ (s72 3016) ∧ (s72 3016) ≤ 65536 := hS72 3016
    have e82 : s72 3025 = (s58 3025) := (f74 3025 (by decide))
    have b83 : 0 ≤ (s72 3025) ∧ (s72 3025) ≤ 31 := hS72 3025
    refine tt_k 1 (S' := (74, [some (.inr (.inl 30)), some (.inl m_), some (.inl k_), some (.inl l_), some (.inl (mi_shr m_ k_))], [], n, D, s72, p, c73)) rfl ?_
    exact tt_rtv rfl rfl ⟨s72, c73, rfl, rfl, hS72, hC73, (fr_tr (fr_tr (fr_tr fr_rf f48 (by decide)) f60 (by decide)) f74 (by decide)), (frc_tr (frc_tr (frc_tr frc_rf g49 (by decide)) g61 (by decide)) g75 (by decide)), k76, by show w_u ((s72 3016)) ((s72 3047)) ((s72 3048)) ≤ w_u (s 3016) (s 3047) (s 3048) + (if mi_shr m_ k_ < l_ - s 3025 - 1 then 8 * mi_shr m_ k_ + 9 + 9 * k_ else 8 * (l_ - s 3025 - 1) + 9 + 9 * s 3025); omega, by show s 3016 ≤ (s72 3016); omega⟩
set_option maxRecDepth 100000 in
set_option maxHeartbeats 4000000 in
theorem k_two {Zi : Nat → Option (Nat × (Nat → Int))} {d n : Nat} {D : Nat → Nat × Nat} {s : Nat → Int} {p : Nat → Nat} {c : Nat → Nat → Int} (hd : 1 ≤ d) (hS : bS s) (hC : bC D c) (v : Int) (b_v : -2147483648 ≤ v ∧ v ≤ 2147483647) (hp0 : s 3016 ≤ 65534) : tt Zi d 148 (0, [some (.inr (.inl 30)), some (.inl v)], [], n, D, s, p, c) (fun R H => ∃ (s' : Nat → Int) (c' : Nat → Nat → Int), R = .inl none ∧ H = (n, D, s', p, c') ∧ bS s' ∧ bC D c' ∧ fr s s' [3016] ∧ frc c c' [35] ∧ (s' 3016 = s 3016 + 2)) := by
  refine tt_k 4 (S' := (5, [some (.inr (.inl 30)), some (.inl v)], [.inl (mi_shr v 8), .inr (.inl 30)], n, D, s, p, c)) rfl ?_
  have e1 := mi_shr_bd v 8
  have b2 : 0 ≤ (s 3016) ∧ (s 3016) ≤ 65536 := hS 3016
  refine tt_cl (by omega) rfl (k_add (Zi := Zi) (D := D) (s := s) (p := p) (c := c) (by omega) hS hC (mi_shr v 8) (by omega) (show (s 3016) ≤ 65535 by omega)) ?_
  rintro _ _ ⟨s3, c4, rfl, rfl, hS3, hC4, f5, g6, k7, k8⟩
  show tt Zi d 148 (8, [some (.inr (.inl 30)), some (.inl v)], [], n, D, s3, p, c4) _
  have k7 : (s3 3016) = (s 3016) + 1 := k7
  have k8 : (c4 35) = ua ((c 35)) ((s 3016)).toNat (mi_nb (mi_i2b (mi_shr v 8))) := k8
  have b9 : 0 ≤ (s3 3016) ∧ (s3 3016) ≤ 65536 := hS3 3016
  refine tt_k 2 (S' := (10, [some (.inr (.inl 30)), some (.inl v)], [.inl v, .inr (.inl 30)], n, D, s3, p, c4)) rfl ?_
  refine tt_cl (by omega) rfl (k_add (Zi := Zi) (D := D) (s := s3) (p := p) (c := c4) (by omega) hS3 hC4 v (by omega) (show (s3 3016) ≤ 65535 by omega)) ?_
  rintro _ _ ⟨s10, c11, rfl, rfl, hS10, hC11, f12, g13, k14, k15⟩
  show tt Zi d 148 (13, [some (.inr (.inl 30)), some (.inl v)], [], n, D, s10, p, c11) _
  have k14 : (s10 3016) = (s3 3016) + 1 := k14
  have k15 : (c11 35) = ua ((c4 35)) ((s3 3016)).toNat (mi_nb (mi_i2b v)) := k15
  have b16 : 0 ≤ (s10 3016) ∧ (s10 3016) ≤ 65536 := hS10 3016
  exact tt_rtv rfl rfl ⟨s10, c11, rfl, rfl, hS10, hC11, (fr_tr (fr_tr fr_rf f5 (by decide)) f12 (by decide)), (frc_tr (frc_tr frc_rf g6 (by decide)) g13 (by decide)), by show (s10 3016) = s 3016 + 2; omega⟩
set_option maxRecDepth 100000 in
set_option maxHeartbeats 4000000 in
theorem k_mark {Zi : Nat → Option (Nat × (Nat → Int))} {d n : Nat} {D : Nat → Nat × Nat} {s : Nat → Int} {p : Nat → Nat} {c : Nat → Nat → Int} (hd : 1 ≤ d) (hS : bS s) (hC : bC D c) (v : Int) (b_v : -2147483648 ≤ v ∧ v ≤ 2147483647) (hp0 : s 3016 ≤ 65534) : tt Zi d 146 (0, [some (.inr (.inl 30)), some (.inl v)], [], n, D, s, p, c) (fun R H => ∃ (s' : Nat → Int) (c' : Nat → Nat → Int), R = .inl none ∧ H = (n, D, s', p, c') ∧ bS s' ∧ bC D c' ∧ fr s s' [3016] ∧ frc c c' [35] ∧ (s' 3016 = s 3016 + 2)) := by
  refine tt_k 2 (S' := (4, [some (.inr (.inl 30)), some (.inl v)], [.inl 255, .inr (.inl 30)], n, D, s, p, c)) rfl ?_
  have b1 : 0 ≤ (s 3016) ∧ (s 3016) ≤ 65536 := hS 3016
  refine tt_cl (by omega) rfl (k_add (Zi := Zi) (D := D) (s := s) (p := p) (c := c) (by omega) hS hC 255 (by omega) (show (s 3016) ≤ 65535 by omega)) ?_
  rintro _ _ ⟨s2, c3, rfl, rfl, hS2, hC3, f4, g5, k6, k7⟩
  show tt Zi d 146 (7, [some (.inr (.inl 30)), some (.inl v)], [], n, D, s2, p, c3) _
  have k6 : (s2 3016) = (s 3016) + 1 := k6
  have k7 : (c3 35) = ua ((c 35)) ((s 3016)).toNat (mi_nb (mi_i2b 255)) := k7
  have b8 : 0 ≤ (s2 3016) ∧ (s2 3016) ≤ 65536 := hS2 3016
  refine tt_k 2 (S' := (9, [some (.inr (.inl 30)), some (.inl v)], [.inl v, .inr (.inl 30)], n, D, s2, p, c3)) rfl ?_
  refine tt_cl (by omega) rfl (k_add (Zi := Zi) (D := D) (s := s2) (p := p) (c := c3) (by omega) hS2 hC3 v (by omega) (show (s2 3016) ≤ 65535 by omega)) ?_
  rintro _ _ ⟨s9, c10, rfl, rfl, hS9, hC10, f11, g12, k13, k14⟩
  show tt Zi d 146 (12, [some (.inr (.inl 30)), some (.inl v)], [], n, D, s9, p, c10) _
  have k13 : (s9 3016) = (s2 3016) + 1 := k13
  have k14 : (c10 35) = ua ((c3 35)) ((s2 3016)).toNat (mi_nb (mi_i2b v)) := k14
  have b15 : 0 ≤ (s9 3016) ∧ (s9 3016) ≤ 65536 := hS9 3016
  exact tt_rtv rfl rfl ⟨s9, c10, rfl, rfl, hS9, hC10, (fr_tr (fr_tr fr_rf f4 (by decide)) f11 (by decide)), (frc_tr (frc_tr frc_rf g5 (by decide)) g12 (by decide)), by show (s9 3016) = s 3016 + 2; omega⟩
set_option maxRecDepth 100000 in
set_option maxHeartbeats 4000000 in
theorem k_flush {Zi : Nat → Option (Nat × (Nat → Int))} {d n : Nat} {D : Nat → Nat × Nat} {s : Nat → Int} {p : Nat → Nat} {c : Nat → Nat → Int} (hd : 3 ≤ d) (hS : bS s) (hC : bC D c) (hp0 : w_ok (s 3047) (s 3048)) (hp1 : w_u (s 3016) (s 3047) (s 3048) ≤ 4194304 - 200) (hp2 : 1 ≤ s 3016) : tt Zi d 177 (0, [some (.inr (.inl 30)), none, none], [], n, D, s, p, c) (fun R H => ∃ (s' : Nat → Int) (c' : Nat → Nat → Int), R = .inl none ∧ H = (n, D, s', p, c') ∧ bS s' ∧ bC D c' ∧ fr s s' [3016, 3047, 3048] ∧ frc c c' [35] ∧ (64 * s' 3016 ≤ w_u (s 3016) (s 3047) (s 3048) + 200) ∧ (s 3016 ≤ s' 3016)) := by
  have w1 := w_lo (size := s 3016) hp0
  refine tt_k 6 (S' := (10, [some (.inr (.inl 30)), none, none], [.inl ((s 3016) - 1), .inr (.inl 35)], n, D, s, p, c)) rfl ?_
  have b2 : 0 ≤ (s 3016) ∧ (s 3016) ≤ 65536 := hS 3016
  refine tt_bldv (i := ((s 3016) - 1)) (v := (c 35 (((s 3016) - 1)).toNat)) rfl rfl (by omega) rfl ?_
  show tt Zi d 177 (11, [some (.inr (.inl 30)), none, none], [.inl ((c 35 (((s 3016) - 1)).toNat))], n, D, s, p, c) _
  have b3 : -128 ≤ (c 35 (((s 3016) - 1)).toNat) ∧ (c 35 (((s 3016) - 1)).toNat) ≤ 127 := hC 35 _
  refine tt_k 3 (S' := (18, [some (.inr (.inl 30)), none, none], [.inl 255, .inl ((mi_and (c 35 (((s 3016) - 1)).toNat) 255))], n, D, s, p, c)) rfl ?_
  have e4 := mi_and255 ((c 35 (((s 3016) - 1)).toNat))
  have K6 : ∀ (j5 : Int) , (0 ≤ j5 ∧ j5 ≤ 1) → (((mi_and (c 35 (((s 3016) - 1)).toNat) 255) ≠ 255 ∧ j5 = 0) ∨ ((mi_and (c 35 (((s 3016) - 1)).toNat) 255) = 255 ∧ j5 = 1)) → tt Zi d 177 (26, [some (.inr (.inl 30)), none, none], [.inl j5], n, D, s, p, c) (fun R H => ∃ (s' : Nat → Int) (c' : Nat → Nat → Int), R = .inl none ∧ H = (n, D, s', p, c') ∧ bS s' ∧ bC D c' ∧ fr s s' [3016, 3047, 3048] ∧ frc c c' [35] ∧ (64 * s' 3016 ≤ w_u (s 3016) (s 3047) (s 3048) + 200) ∧ (s 3016 ≤ s' 3016)) := by
    intro j5 b8 hj7
    refine tt_k 2 (S' := (28, [some (.inr (.inl 30)), some (.inl j5), none], [.inl j5], n, D, s, p, c)) rfl ?_
    have K10 : ∀ (j9 : Int) , (7 ≤ j9 ∧ j9 ≤ 8) → ((j5 = 0 ∧ j9 = 8) ∨ (j5 ≠ 0 ∧ j9 = 7)) → tt Zi d 177 (38, [some (.inr (.inl 30)), some (.inl j5), none], [.inl j9], n, D, s, p, c) (fun R H => ∃ (s' : Nat → Int) (c' : Nat → Nat → Int), R = .inl none ∧ H = (n, D, s', p, c') ∧ bS s' ∧ bC D c' ∧ fr s s' [3016, 3047, 3048] ∧ frc c c' [35] ∧ (64 * s' 3016 ≤ w_u (s 3016) (s 3047) (s 3048) + 200) ∧ (s 3016 ≤ s' 3016)) := by
      intro j9 b12 hj11
      refine tt_k 4 (S' := (44, [some (.inr (.inl 30)), some (.inl j5), some (.inl j9)], [.inl j9, .inl (s 3048)], n, D, s, p, c)) rfl ?_
      have b13 : 0 ≤ (s 3048) ∧ (s 3048) ≤ 8 := hS 3048
      refine tb_ge (x := (s 3048)) (y := j9) rfl rfl (by omega) (fun h14 => ?_) (fun h14 => ?_)
      · show tt Zi d 177 (86, [some (.inr (.inl 30)), some (.inl j5), some (.inl j9)], [], n, D, s, p, c) _
        refine tt_k 1 (S' := (87, [some (.inr (.inl 30)), some (.inl j5), some (.inl j9)], [.inl j5], n, D, s, p, c)) rfl ?_
        refine tz_eq (x := j5) rfl rfl (by omega) (fun h15 => ?_) (fun h15 => ?_)
        · show tt Zi d 177 (95, [some (.inr (.inl 30)), some (.inl j5), some (.inl j9)], [], n, D, s, p, c) _
          exact tt_rtv rfl rfl ⟨s, c, rfl, rfl, hS, hC, fr_rf, frc_rf, by show 64 * (s 3016) ≤ w_u (s 3016) (s 3047) (s 3048) + 200; omega, by show s 3016 ≤ (s 3016); omega⟩
        · show tt Zi d 177 (90, [some (.inr (.inl 30)), some (.inl j5), some (.inl j9)], [], n, D, s, p, c) _
          refine tt_k 2 (S' := (92, [some (.inr (.inl 30)), some (.inl j5), some (.inl j9)], [.inl 0, .inr (.inl 30)], n, D, s, p, c)) rfl ?_
          refine tt_cl (by omega) rfl (k_add (Zi := Zi) (D := D) (s := s) (p := p) (c := c) (by omega) hS hC 0 (by omega) (show (s 3016) ≤ 65535 by omega)) ?_
          rintro _ _ ⟨s16, c17, rfl, rfl, hS16, hC17, f18, g19, k20, k21⟩
          show tt Zi d 177 (95, [some (.inr (.inl 30)), some (.inl j5), some (.inl j9)], [], n, D, s16, p, c17) _
          have k20 : (s16 3016) = (s 3016) + 1 := k20
          have k21 : (c17 35) = ua ((c 35)) ((s 3016)).toNat (mi_nb (mi_i2b 0)) := k21
          have b22 : 0 ≤ (s16 3016) ∧ (s16 3016) ≤ 65536 := hS16 3016
          exact tt_rtv rfl rfl ⟨s16, c17, rfl, rfl, hS16, hC17, (fr_tr fr_rf f18 (by decide)), (frc_tr frc_rf g19 (by decide)), by show 64 * (s16 3016) ≤ w_u (s 3016) (s 3047) (s 3048) + 200; omega, by show s 3016 ≤ (s16 3016); omega⟩
      · show tt Zi d 177 (47, [some (.inr (.inl 30)), some (.inl j5), some (.inl j9)], [], n, D, s, p, c) _
        refine tt_k 4 (S' := (53, [some (.inr (.inl 30)), some (.inl j5), some (.inl j9)], [.inl 0, .inl (s 3048), .inr (.inl 30)], n, D, s, p, c)) rfl ?_
        have b23 : 0 ≤ (s 3047) ∧ (s 3047) ≤ 255 := hS 3047
        refine tt_cl (by omega) rfl (k_putBits (Zi := Zi) (D := D) (s := s) (p := p) (c := c) (by omega) hS hC (s 3048) 0 (by omega) (by omega) hp0 (show w_u ((s 3016)) ((s 3047)) ((s 3048)) + 8 * (s 3048) + (if 0 = 0 then 0 else (s 3048)) ≤ 4194304 by omega)) ?_
        rintro _ _ ⟨s24, c25, rfl, rfl, hS24, hC25, f26, g27, k28, k29, k30⟩
        show tt Zi d 177 (56, [some (.inr (.inl 30)), some (.inl j5), some (.inl j9)], [], n, D, s24, p, c25) _
        have k28 : w_ok ((s24 3047)) ((s24 3048)) := k28
        have k29 : w_u ((s24 3016)) ((s24 3047)) ((s24 3048)) ≤ w_u ((s 3016)) ((s 3047)) ((s 3048)) + 8 * (s 3048) + (if 0 = 0 then 0 else (s 3048)) := k29
        have k30 : (s 3016) ≤ (s24 3016) := k30
        have b31 : 0 ≤ (s24 3047) ∧ (s24 3047) ≤ 255 := hS24 3047
        have b32 : 0 ≤ (s24 3048) ∧ (s24 3048) ≤ 8 := hS24 3048
        have b33 : 0 ≤ (s24 3016) ∧ (s24 3016) ≤ 65536 := hS24 3016
        have w34 := w_lo (size := s24 3016) k28
        refine tt_k 8 (S' := (69, [some (.inr (.inl 30)), some (.inl j5), some (.inl 8)], [.inl ((s24 3016) - 1), .inr (.inl 35)], n, D, s24, p, c25)) rfl ?_
        refine tt_bldv (i := ((s24 3016) - 1)) (v := (c25 35 (((s24 3016) - 1)).toNat)) rfl rfl (by omega) rfl ?_
        show tt Zi d 177 (70, [some (.inr (.inl 30)), some (.inl j5), some (.inl 8)], [.inl ((c25 35 (((s24 3016) - 1)).toNat))], n, D, s24, p, c25) _
        have b35 : -128 ≤ (c25 35 (((s24 3016) - 1)).toNat) ∧ (c25 35 (((s24 3016) - 1)).toNat) ≤ 127 := hC25 35 _
        refine tt_k 3 (S' := (77, [some (.inr (.inl 30)), some (.inl j5), some (.inl 8)], [.inl 255, .inl ((mi_and (c25 35 (((s24 3016) - 1)).toNat) 255))], n, D, s24, p, c25)) rfl ?_
        have e36 := mi_and255 ((c25 35 (((s24 3016) - 1)).toNat))
        have K38 : ∀ (j37 : Int) , (0 ≤ j37 ∧ j37 ≤ 1) → (((mi_and (c25 35 (((s24 3016) - 1)).toNat) 255) ≠ 255 ∧ j37 = 0) ∨ ((mi_and (c25 35 (((s24 3016) - 1)).toNat) 255) = 255 ∧ j37 = 1)) → tt Zi d 177 (85, [some (.inr (.inl 30)), some (.inl j5), some (.inl 8)], [.inl j37], n, D, s24, p, c25) (fun R H => ∃ (s' : Nat → Int) (c' : Nat → Nat → Int), R = .inl none ∧ H = (n, D, s', p, c') ∧ bS s' ∧ bC D c' ∧ fr s s' [3016, 3047, 3048] ∧ frc c c' [35] ∧ (64 * s' 3016 ≤ w_u (s 3016) (s 3047) (s 3048) + 200) ∧ (s 3016 ≤ s' 3016)) := by
          intro j37 b40 hj39
          refine tt_k 2 (S' := (87, [some (.inr (.inl 30)), some (.inl j37), some (.inl 8)], [.inl j37], n, D, s24, p, c25)) rfl ?_
          refine tz_eq (x := j37) rfl rfl (by omega) (fun h41 => ?_) (fun h41 => ?_)
          · show tt Zi d 177 (95, [some (.inr (.inl 30)), some (.inl j37), some (.inl 8)], [], n, D, s24, p, c25) _
            exact tt_rtv rfl rfl ⟨s24, c25, rfl, rfl, hS24, hC25, (fr_tr fr_rf f26 (by decide)), (frc_tr frc_rf g27 (by decide)), by show 64 * (s24 3016) ≤ w_u (s 3016) (s 3047) (s 3048) + 200; omega, by show s 3016 ≤ (s24 3016); omega⟩
          · show tt Zi d 177 (90, [some (.inr (.inl 30)), some (.inl j37), some (.inl 8)], [], n, D, s24, p, c25) _
            refine tt_k 2 (S' := (92, [some (.inr (.inl 30)), some (.inl j37), some (.inl 8)], [.inl 0, .inr (.inl 30)], n, D, s24, p, c25)) rfl ?_
            refine tt_cl (by omega) rfl (k_add (Zi := Zi) (D := D) (s := s24) (p := p) (c := c25) (by omega) hS24 hC25 0 (by omega) (show (s24 3016) ≤ 65535 by omega)) ?_
            rintro _ _ ⟨s42, c43, rfl, rfl, hS42, hC43, f44, g45, k46, k47⟩
            show tt Zi d 177 (95, [some (.inr (.inl 30)), some (.inl j37), some (.inl 8)], [], n, D, s42, p, c43) _
            have k46 : (s42 3016) = (s24 3016) + 1 := k46
            have k47 : (c43 35) = ua ((c25 35)) ((s24 3016)).toNat (mi_nb (mi_i2b 0)) := k47
            have b48 : 0 ≤ (s42 3016) ∧ (s42 3016) ≤ 65536 := hS42 3016
            exact tt_rtv rfl rfl ⟨s42, c43, rfl, rfl, hS42, hC43, (fr_tr (fr_tr fr_rf f26 (by decide)) f44 (by decide)), (frc_tr (frc_tr frc_rf g27 (by decide)) g45 (by decide)), by show 64 * (s42 3016) ≤ w_u (s 3016) (s 3047) (s 3048) + 200; omega, by show s 3016 ≤ (s42 3016); omega⟩
        refine tb_ne (x := (mi_and (c25 35 (((s24 3016) - 1)).toNat) 255)) (y := 255) rfl rfl (by omega) (fun h49 => ?_) (fun h49 => ?_)
        · show tt Zi d 177 (84, [some (.inr (.inl 30)), some (.inl j5), some (.inl 8)], [], n, D, s24, p, c25) _
          refine tt_k 1 (S' := (85, [some (.inr (.inl 30)), some (.inl j5), some (.inl 8)], [.inl 0], n, D, s24, p, c25)) rfl ?_
          exact K38 0  (by omega) (Or.inl ⟨h49, rfl⟩)
        · show tt Zi d 177 (80, [some (.inr (.inl 30)), some (.inl j5), some (.inl 8)], [], n, D, s24, p, c25) _
          refine tt_k 2 (S' := (85, [some (.inr (.inl 30)), some (.inl j5), some (.inl 8)], [.inl 1], n, D, s24, p, c25)) rfl ?_
          exact K38 1  (by omega) (Or.inr (⟨h49, rfl⟩))
    refine tz_eq (x := j5) rfl rfl (by omega) (fun h50 => ?_) (fun h50 => ?_)
    · show tt Zi d 177 (36, [some (.inr (.inl 30)), some (.inl j5), none], [], n, D, s, p, c) _
      refine tt_k 1 (S' := (38, [some (.inr (.inl 30)), some (.inl j5), none], [.inl 8], n, D, s, p, c)) rfl ?_
      exact K10 8  (by omega) (Or.inl ⟨h50, rfl⟩)
    · show tt Zi d 177 (31, [some (.inr (.inl 30)), some (.inl j5), none], [], n, D, s, p, c) _
      refine tt_k 2 (S' := (38, [some (.inr (.inl 30)), some (.inl j5), none], [.inl 7], n, D, s, p, c)) rfl ?_
      exact K10 7  (by omega) (Or.inr (⟨h50, rfl⟩))
  refine tb_ne (x := (mi_and (c 35 (((s 3016) - 1)).toNat) 255)) (y := 255) rfl rfl (by omega) (fun h51 => ?_) (fun h51 => ?_)
  · show tt Zi d 177 (25, [some (.inr (.inl 30)), none, none], [], n, D, s, p, c) _
    refine tt_k 1 (S' := (26, [some (.inr (.inl 30)), none, none], [.inl 0], n, D, s, p, c)) rfl ?_
    exact K6 0  (by omega) (Or.inl ⟨h51, rfl⟩)
  · show tt Zi d 177 (21, [some (.inr (.inl 30)), none, none], [], n, D, s, p, c) _
    refine tt_k 2 (S' := (26, [some (.inr (.inl 30)), none, none], [.inl 1], n, D, s, p, c)) rfl ?_
    exact K6 1  (by omega) (Or.inr (⟨h51, rfl⟩))
