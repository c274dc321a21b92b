/-! the reference reads a sample of a place -/
theorem k_le_q {s : Nat → Int} {t k S : Int} {c : Nat → Nat → Int} {i : Nat} (h : mv s) (hp : pli s t c i) (k0 : 0 ≤ k) (hS : 2 * S ≤ 2 * c 36 i + c 39 i) (h2 : k = 0 ∨ c 39 i * 2 ^ (k - 1).toNat < S) : k ≤ s 3025 ∧ s 3025 ≤ 16 := by
  obtain ⟨p1, p2, p3, p4, p5, p6, p7, p8, p9⟩ := hp
  obtain ⟨q1, q2, q3, q4, q5⟩ := mv_q h
  have e : (k - 1).toNat = k.toNat - 1 := by omega
  rw [e] at h2
  have h3 := ex_q (S := S) (N := c 39 i) (k := k.toNat) (q := qq s) p3 (by omega) (by omega)
  omega
set_option maxRecDepth 100000 in
set_option maxHeartbeats 4000000 in
theorem k_regR2 {Zi : Nat → Option (Nat × (Nat → Int))} {d n : Nat} {D : Nat → Nat × Nat} {s : Nat → Int} {p : Nat → Nat} {c : Nat → Nat → Int} (hd : 3 ≤ d) (hS : bS s) (hC : bC D c) (t : Int) (x : Int) (y : Int) (p_ : Int) (l4 : Int) (l5 : Int) (e : Int) (l7 : Int) (l8 : Int) (l9 : Int) (b_x : 0 ≤ x ∧ x ≤ 63) (b_y : 0 ≤ y ∧ y ≤ 63) (b_p_ : 0 ≤ p_ ∧ p_ ≤ 364) (b_e : -1073741824 ≤ e ∧ e ≤ 1073741824) (hp0 : mv s) (hp1 : s 3036 = 0 ∧ x < s 3037) (hp2 : 0 ≤ s 3045 ∧ s 3045 ≤ s 3017) (hp3 : pl s t c) (hp4 : 0 ≤ t ∧ t ≤ 4095) (hp5 : tb (s 3037) (s 3039) (s 3017) (c 44) x y) (hp6 : s 3050 = 0 → -(s 3024 / 2) ≤ e ∧ e ≤ (s 3024 - 1) / 2) : tt Zi d 173 (390, [some (.inr (.inl 30)), some (.inl x), some (.inl y), some (.inl p_), some (.inl l4), some (.inl l5), some (.inl e), some (.inl l7), some (.inl l8), some (.inl l9)], [], n, D, s, p, c) (fun R H => ∃ (c' : Nat → Nat → Int), R = .inl none ∧ H = (n, D, s, p, c') ∧ bC D c' ∧ frc c c' [36, 37, 38, 39, 44] ∧ (s 3050 = 0 → pl s (t + 1) c') ∧ (s 3050 = 0 → tb (s 3037) (s 3039) (s 3017) (c' 44) (x + 1) y)) := by
  have b1 : 0 ≤ (s 3037) ∧ (s 3037) ≤ 64 := hS 3037
  have b2 : 0 ≤ (s 3039) ∧ (s 3039) ≤ 8192 := hS 3039
  have mvx := mv_fx hp0
  have hi := hp3 (p_).toNat (by omega)
  have hb := pl_bd hp0 (by omega) hi
  refine tt_k 2 (S' := (394, [some (.inr (.inl 30)), some (.inl x), some (.inl y), some (.inl p_), some (.inl l4), some (.inl l5), some (.inl e), some (.inl l7), some (.inl l8), some (.inl l9)], [.inl (s 3050)], n, D, s, p, c)) rfl ?_
  have b3 : 0 ≤ (s 3050) ∧ (s 3050) ≤ 8 := hS 3050
  refine tz_le (x := (s 3050)) rfl rfl (by omega) (fun h4 => ?_) (fun h4 => ?_)
  · show tt Zi d 173 (398, [some (.inr (.inl 30)), some (.inl x), some (.inl y), some (.inl p_), some (.inl l4), some (.inl l5), some (.inl e), some (.inl l7), some (.inl l8), some (.inl l9)], [], n, D, s, p, c) _
    refine tt_k 12 (S' := (416, [some (.inr (.inl 30)), some (.inl x), some (.inl y), some (.inl p_), some (.inl l4), some (.inl l5), some (.inl e), some (.inl l7), some (.inl l8), some (.inl l9)], [.inl e, .inr (.inl 30), .inl ((((s 3039) + (64 * y)) + x)), .inr (.inl 44)], n, D, s, p, c)) rfl ?_
    have hz := hp6 (by omega)
    have b5 : -65535 ≤ (s 3045) ∧ (s 3045) ≤ 131070 := hS 3045
    refine tt_cl (by omega) rfl (k_sampleOf (Zi := Zi) (D := D) (s := s) (p := p) (c := c) (by omega) hS hC e (by omega) hp0 (show -65535 ≤ (s 3045) ∧ (s 3045) ≤ 131070 by omega)) ?_
    rintro _ _ ⟨r6, rfl, rfl, b7, k8⟩
    show tt Zi d 173 (419, [some (.inr (.inl 30)), some (.inl x), some (.inl y), some (.inl p_), some (.inl l4), some (.inl l5), some (.inl e), some (.inl l7), some (.inl l8), some (.inl l9)], [.inl r6, .inl ((((s 3039) + (64 * y)) + x)), .inr (.inl 44)], n, D, s, p, c) _
    replace k8 : 0 ≤ r6 ∧ r6 ≤ (s 3017) := k8
    have b9 : 0 ≤ (s 3017) ∧ (s 3017) ≤ 65535 := hS 3017
    refine tt_ist (i := (((s 3039) + (64 * y)) + x)) (x := r6) rfl rfl (by omega) ?_
    show tt Zi d 173 (420, [some (.inr (.inl 30)), some (.inl x), some (.inl y), some (.inl p_), some (.inl l4), some (.inl l5), some (.inl e), some (.inl l7), some (.inl l8), some (.inl l9)], [], n, D, s, p, (uc c 44 (ua (c 44) ((((s 3039) + (64 * y)) + x)).toNat r6))) _
    refine tt_k 3 (S' := (424, [some (.inr (.inl 30)), some (.inl x), some (.inl y), some (.inl p_), some (.inl l4), some (.inl l5), some (.inl e), some (.inl l7), some (.inl l8), some (.inl l9)], [.inl e, .inl p_, .inr (.inl 30)], n, D, s, p, (uc c 44 (ua (c 44) ((((s 3039) + (64 * y)) + x)).toNat r6)))) rfl ?_
    have b10 : -2147483648 ≤ (s 3023) ∧ (s 3023) ≤ 2147483647 := hS 3023
    have b11 : 0 ≤ (s 3022) ∧ (s 3022) ≤ 65535 := hS 3022
    refine tt_cl (by omega) rfl (k_learn (Zi := Zi) (D := D) (s := s) (p := p) (c := (uc c 44 (ua (c 44) ((((s 3039) + (64 * y)) + x)).toNat r6))) (by omega) hS (bC_st hC (show 0 ≤ r6 ∧ r6 ≤ 65535 by omega)) p_ e (by omega) (by omega) (show 1 ≤ (s 3023) ∧ (s 3023) ≤ 511 ∧ 3 ≤ (s 3022) by omega) (show 0 ≤ (c 36) p_.toNat ∧ (c 36) p_.toNat ≤ 300000000 by omega) (show -65536 ≤ (c 37) p_.toNat ∧ (c 37) p_.toNat ≤ 65536 by omega) (show -128 ≤ (c 38) p_.toNat ∧ (c 38) p_.toNat ≤ 127 by omega) (show 1 ≤ (c 39) p_.toNat ∧ (c 39) p_.toNat ≤ 70000 by omega)) ?_
    rintro _ _ ⟨c12, rfl, rfl, hC12, g13, k14, k15, k16, k17, k18, k19, k20, k21⟩
    show tt Zi d 173 (427, [some (.inr (.inl 30)), some (.inl x), some (.inl y), some (.inl p_), some (.inl l4), some (.inl l5), some (.inl e), some (.inl l7), some (.inl l8), some (.inl l9)], [], n, D, s, p, c12) _
    replace k14 : (c12 36) p_.toNat = if (c 39) p_.toNat = (s 3022) then ((c 36) p_.toNat + (if 0 ≤ e then e else -e)) / 2 else (c 36) p_.toNat + (if 0 ≤ e then e else -e) := k14
    replace k15 : (c12 39) p_.toNat = (if (c 39) p_.toNat = (s 3022) then (c 39) p_.toNat / 2 else (c 39) p_.toNat) + 1 := k15
    replace k16 : 1 - (c12 39) p_.toNat ≤ (c12 37) p_.toNat ∧ (c12 37) p_.toNat ≤ 0 := k16
    replace k17 : -128 ≤ (c12 38) p_.toNat ∧ (c12 38) p_.toNat ≤ 127 := k17
    replace k18 : ∀ j, j ≠ p_.toNat → (c12 36) j = (c 36) j := k18
    replace k19 : ∀ j, j ≠ p_.toNat → (c12 37) j = (c 37) j := k19
    replace k20 : ∀ j, j ≠ p_.toNat → (c12 38) j = (c 38) j := k20
    replace k21 : ∀ j, j ≠ p_.toNat → (c12 39) j = (c 39) j := k21
    have hN4 : c12 39 (p_).toNat ≤ 70000 := by rw [k15]; (try split) <;> omega
    have w44 : c12 44 = (ua (c 44) ((((s 3039) + (64 * y)) + x)).toNat r6) := g13 44 (by decide)
    have hTB : tb (s 3037) (s 3039) (s 3017) (c12 44) (x + 1) y := by rw [w44]; exact tb_next hp5 (by omega) (by omega) (by omega) (by omega) (by omega)
    have hE2 : 0 ≤ (if 0 ≤ e then e else -e) ∧ 2 * (if 0 ≤ e then e else -e) ≤ s 3024 + 1 := by have hz := hp6 (by omega); split <;> omega
    exact tt_rtv rfl rfl ⟨c12, rfl, rfl, hC12, (frc_tr (frc_uc (by decide) frc_rf) g13 (by decide)), fun _ => pl_next (s := s) hp0 (by omega) hp3 (i := (p_).toNat) (by omega) rfl (E := (if 0 ≤ e then e else -e)) hE2.1 hE2.2 k14 k15 (by omega) (by omega) k18 k19 k20 k21, fun _ => hTB⟩
  · show tt Zi d 173 (397, [some (.inr (.inl 30)), some (.inl x), some (.inl y), some (.inl p_), some (.inl l4), some (.inl l5), some (.inl e), some (.inl l7), some (.inl l8), some (.inl l9)], [], n, D, s, p, c) _
    exact tt_rtv rfl rfl ⟨c, rfl, rfl, hC, frc_rf, by show s 3050 = 0 → pl s (t + 1) c; intro hz; omega, by show s 3050 = 0 → tb (s 3037) (s 3039) (s 3017) ((c 44)) (x + 1) y; intro hz; omega⟩
set_option maxRecDepth 100000 in
set_option maxHeartbeats 4000000 in
theorem k_regR {Zi : Nat → Option (Nat × (Nat → Int))} {d n : Nat} {D : Nat → Nat × Nat} {s : Nat → Int} {p : Nat → Nat} {c : Nat → Nat → Int} (hd : 5 ≤ d) (hS : bS s) (hC : bC D c) (t : Int) (x : Int) (y : Int) (p_ : Int) (b_x : 0 ≤ x ∧ x ≤ 63) (b_y : 0 ≤ y ∧ y ≤ 63) (b_p_ : 0 ≤ p_ ∧ p_ ≤ 364) (hp0 : mv s) (hp1 : s 3036 = 0 ∧ s 3050 = 0 ∧ x < s 3037) (hp2 : (0 ≤ s 3041 ∧ s 3041 ≤ s 3017) ∧ (0 ≤ s 3042 ∧ s 3042 ≤ s 3017) ∧ (0 ≤ s 3043 ∧ s 3043 ≤ s 3017)) (hp3 : pl s t c) (hp4 : 0 ≤ t ∧ t ≤ 4095) (hp5 : tb (s 3037) (s 3039) (s 3017) (c 44) x y) : tt Zi d 173 (0, [some (.inr (.inl 30)), some (.inl x), some (.inl y), some (.inl p_), none, none, none, none, none, none], [], n, D, s, p, c) (fun R H => ∃ (s' : Nat → Int) (c' : Nat → Nat → Int), R = .inl none ∧ H = (n, D, s', p, c') ∧ bS s' ∧ bC D c' ∧ fr s s' [3045, 3049, 3050, 3051, 3052, 3053, 3054] ∧ frc c c' [36, 37, 38, 39, 44] ∧ (s' 3050 = 0 → pl s' (t + 1) c') ∧ (s' 3050 = 0 → tb (s' 3037) (s' 3039) (s' 3017) (c' 44) (x + 1) y) ∧ (s 3049 ≤ s' 3049) ∧ (s 3049 ≤ 32768 → s' 3049 ≤ 32768)) := by
  have mvx := mv_fx hp0
  have hi := hp3 (p_).toNat (by omega)
  have hb := pl_bd hp0 (by omega) hi
  refine tt_k 7 (S' := (13, [some (.inr (.inl 30)), some (.inl x), some (.inl y), some (.inl p_), none, none, none, none, none, none], [.inl (s 3042), .inl (s 3041), .inl (s 3043), .inr (.inl 30)], n, D, s, p, c)) rfl ?_
  have b1 : 0 ≤ (s 3041) ∧ (s 3041) ≤ 65535 := hS 3041
  have b2 : 0 ≤ (s 3042) ∧ (s 3042) ≤ 65535 := hS 3042
  refine tt_cl (by omega) rfl (k_more (Zi := Zi) (D := D) (s := s) (p := p) (c := c) (by omega) hS hC (s 3041) (s 3042) (by omega) (by omega)) ?_
  rintro _ _ ⟨r3, rfl, rfl, b4, k5⟩
  show tt Zi d 173 (16, [some (.inr (.inl 30)), some (.inl x), some (.inl y), some (.inl p_), none, none, none, none, none, none], [.inl r3, .inl (s 3043), .inr (.inl 30)], n, D, s, p, c) _
  replace k5 : r3 = max (s 3041) (s 3042) := k5
  subst k5
  show tt Zi d 173 (16, [some (.inr (.inl 30)), some (.inl x), some (.inl y), some (.inl p_), none, none, none, none, none, none], [.inl (max (s 3041) (s 3042)), .inl (s 3043), .inr (.inl 30)], n, D, s, p, c) _
  have b6 : 0 ≤ (s 3043) ∧ (s 3043) ≤ 65535 := hS 3043
  have K8 : ∀ (j7 : Int) , (-2147483648 ≤ j7 ∧ j7 ≤ 2147483647) → (-65535 ≤ j7 ∧ j7 ≤ 131070) → (True) → tt Zi d 173 (79, [some (.inr (.inl 30)), some (.inl x), some (.inl y), some (.inl p_), none, none, none, none, none, none], [.inl j7, .inr (.inl 30)], n, D, s, p, c) (fun R H => ∃ (s' : Nat → Int) (c' : Nat → Nat → Int), R = .inl none ∧ H = (n, D, s', p, c') ∧ bS s' ∧ bC D c' ∧ fr s s' [3045, 3049, 3050, 3051, 3052, 3053, 3054] ∧ frc c c' [36, 37, 38, 39, 44] ∧ (s' 3050 = 0 → pl s' (t + 1) c') ∧ (s' 3050 = 0 → tb (s' 3037) (s' 3039) (s' 3017) (c' 44) (x + 1) y) ∧ (s 3049 ≤ s' 3049) ∧ (s 3049 ≤ 32768 → s' 3049 ≤ 32768)) := by
    intro j7 b10 b11 hj9
    refine tt_k 7 (S' := (92, [some (.inr (.inl 30)), some (.inl x), some (.inl y), some (.inl p_), none, none, none, none, none, none], [.inl (s 3046), .inl (s 3017), .inl 0, .inr (.inl 30)], n, D, (us s 3045 j7), p, c)) rfl ?_
    have b12 : 0 ≤ (s 3046) ∧ (s 3046) ≤ 1 := hS 3046
    have K14 : ∀ (j13 : Int) , (-4294967296 ≤ j13 ∧ j13 ≤ 4294967295) → (-70000 ≤ j13 ∧ j13 ≤ 140000) → (True) → tt Zi d 173 (120, [some (.inr (.inl 30)), some (.inl x), some (.inl y), some (.inl p_), none, none, none, none, none, none], [.inl j13, .inl (s 3017), .inl 0, .inr (.inl 30)], n, D, (us s 3045 j7), p, c) (fun R H => ∃ (s' : Nat → Int) (c' : Nat → Nat → Int), R = .inl none ∧ H = (n, D, s', p, c') ∧ bS s' ∧ bC D c' ∧ fr s s' [3045, 3049, 3050, 3051, 3052, 3053, 3054] ∧ frc c c' [36, 37, 38, 39, 44] ∧ (s' 3050 = 0 → pl s' (t + 1) c') ∧ (s' 3050 = 0 → tb (s' 3037) (s' 3039) (s' 3017) (c' 44) (x + 1) y) ∧ (s 3049 ≤ s' 3049) ∧ (s 3049 ≤ 32768 → s' 3049 ≤ 32768)) := by
      intro j13 b16 b17 hj15
      have b18 : 0 ≤ (s 3017) ∧ (s 3017) ≤ 65535 := hS 3017
      refine tt_cl (by omega) rfl (k_less (Zi := Zi) (D := D) (s := (us s 3045 j7)) (p := p) (c := c) (by omega) (bS_us hS (show -65535 ≤ j7 ∧ j7 ≤ 131070 by omega)) hC (s 3017) j13 (by omega) (by omega)) ?_
      rintro _ _ ⟨r19, rfl, rfl, b20, k21⟩
      show tt Zi d 173 (123, [some (.inr (.inl 30)), some (.inl x), some (.inl y), some (.inl p_), none, none, none, none, none, none], [.inl r19, .inl 0, .inr (.inl 30)], n, D, (us s 3045 j7), p, c) _
      replace k21 : r19 = min (s 3017) j13 := k21
      subst k21
      show tt Zi d 173 (123, [some (.inr (.inl 30)), some (.inl x), some (.inl y), some (.inl p_), none, none, none, none, none, none], [.inl (min (s 3017) j13), .inl 0, .inr (.inl 30)], n, D, (us s 3045 j7), p, c) _
      refine tt_cl (by omega) rfl (k_more (Zi := Zi) (D := D) (s := (us s 3045 j7)) (p := p) (c := c) (by omega) (bS_us hS (show -65535 ≤ j7 ∧ j7 ≤ 131070 by omega)) hC 0 (min (s 3017) j13) (by omega) (by omega)) ?_
      rintro _ _ ⟨r22, rfl, rfl, b23, k24⟩
      show tt Zi d 173 (126, [some (.inr (.inl 30)), some (.inl x), some (.inl y), some (.inl p_), none, none, none, none, none, none], [.inl r22, .inr (.inl 30)], n, D, (us s 3045 j7), p, c) _
      replace k24 : r22 = max 0 (min (s 3017) j13) := k24
      subst k24
      show tt Zi d 173 (126, [some (.inr (.inl 30)), some (.inl x), some (.inl y), some (.inl p_), none, none, none, none, none, none], [.inl ((max 0 (min (s 3017) j13))), .inr (.inl 30)], n, D, (us s 3045 j7), p, c) _
      refine tt_k 5 (S' := (135, [some (.inr (.inl 30)), some (.inl x), some (.inl y), some (.inl p_), none, none, none, none, none, none], [.inl p_, .inr (.inl 36), .inr (.inl 30)], n, D, (us (us s 3045 j7) 3045 ((max 0 (min (s 3017) j13)))), p, c)) rfl ?_
      refine tt_ildv (i := p_) (v := (c 36 (p_).toNat)) rfl rfl (by omega) rfl ?_
      show tt Zi d 173 (136, [some (.inr (.inl 30)), some (.inl x), some (.inl y), some (.inl p_), none, none, none, none, none, none], [.inl (c 36 (p_).toNat), .inr (.inl 30)], n, D, (us (us s 3045 j7) 3045 ((max 0 (min (s 3017) j13)))), p, c) _
      have b25 : -2147483648 ≤ (c 36 (p_).toNat) ∧ (c 36 (p_).toNat) ≤ 2147483647 := hC 36 _
      refine tt_k 3 (S' := (141, [some (.inr (.inl 30)), some (.inl x), some (.inl y), some (.inl p_), none, none, none, none, none, none], [.inl p_, .inr (.inl 39), .inl (c 36 (p_).toNat), .inr (.inl 30)], n, D, (us (us s 3045 j7) 3045 ((max 0 (min (s 3017) j13)))), p, c)) rfl ?_
      refine tt_ildv (i := p_) (v := (c 39 (p_).toNat)) rfl rfl (by omega) rfl ?_
      show tt Zi d 173 (142, [some (.inr (.inl 30)), some (.inl x), some (.inl y), some (.inl p_), none, none, none, none, none, none], [.inl (c 39 (p_).toNat), .inl (c 36 (p_).toNat), .inr (.inl 30)], n, D, (us (us s 3045 j7) 3045 ((max 0 (min (s 3017) j13)))), p, c) _
      have b26 : -2147483648 ≤ (c 39 (p_).toNat) ∧ (c 39 (p_).toNat) ≤ 2147483647 := hC 39 _
      refine tt_cl (by omega) rfl (k_exponent (Zi := Zi) (D := D) (s := (us (us s 3045 j7) 3045 ((max 0 (min (s 3017) j13))))) (p := p) (c := c) (by omega) (bS_us (bS_us hS (show -65535 ≤ j7 ∧ j7 ≤ 131070 by omega)) (show -65535 ≤ (max 0 (min (s 3017) j13)) ∧ (max 0 (min (s 3017) j13)) ≤ 131070 by omega)) hC (c 36 (p_).toNat) (c 39 (p_).toNat) (by omega) (by omega)) ?_
      rintro _ _ ⟨r27, rfl, rfl, b28, k29, k30⟩
      show tt Zi d 173 (145, [some (.inr (.inl 30)), some (.inl x), some (.inl y), some (.inl p_), none, none, none, none, none, none], [.inl r27], n, D, (us (us s 3045 j7) 3045 ((max 0 (min (s 3017) j13)))), p, c) _
      replace k29 : (c 36 (p_).toNat) ≤ (c 39 (p_).toNat) * 2 ^ r27.toNat := k29
      replace k30 : r27 = 0 ∨ (c 39 (p_).toNat) * 2 ^ (r27 - 1).toNat < (c 36 (p_).toNat) := k30
      have hkq := k_le_q (s := s) (t := t) (c := c) (i := (p_).toNat) (S := (c 36 (p_).toNat)) (k := r27) hp0 hi (by omega) (by omega) k30
      have z31 : -2147483648 ≤ j7 ∧ j7 ≤ 2147483647 := by omega
      have z32 : 0 ≤ p_ ∧ p_ ≤ 364 := by omega
      have z33 : 0 ≤ r27 ∧ r27 ≤ 16 := by omega
      have z34 : 0 ≤ x ∧ x ≤ 63 := by omega
      have z35 : 0 ≤ y ∧ y ≤ 63 := by omega
      have z36 : -65535 ≤ j7 ∧ j7 ≤ 131070 := by omega
      clear b28 k29 k30 b26 b25 b23 b20 b18 b16 b17 hj15 b12 b10 b11 hj9 b6 b4 b2 b1
      refine tt_k 3 (S' := (151, [some (.inr (.inl 30)), some (.inl x), some (.inl y), some (.inl p_), some (.inl r27), none, none, none, none, none], [.inl (s 3018)], n, D, (us (us s 3045 j7) 3045 ((max 0 (min (s 3017) j13)))), p, c)) rfl ?_
      have b37 : -2147483648 ≤ (s 3018) ∧ (s 3018) ≤ 2147483647 := hS 3018
      have K39 : ∀ (j38 : Int) , (0 ≤ j38 ∧ j38 ≤ 1) → (True) → tt Zi d 173 (182, [some (.inr (.inl 30)), some (.inl x), some (.inl y), some (.inl p_), some (.inl r27), none, none, none, none, none], [.inl j38], n, D, (us (us s 3045 j7) 3045 ((max 0 (min (s 3017) j13)))), p, c) (fun R H => ∃ (s' : Nat → Int) (c' : Nat → Nat → Int), R = .inl none ∧ H = (n, D, s', p, c') ∧ bS s' ∧ bC D c' ∧ fr s s' [3045, 3049, 3050, 3051, 3052, 3053, 3054] ∧ frc c c' [36, 37, 38, 39, 44] ∧ (s' 3050 = 0 → pl s' (t + 1) c') ∧ (s' 3050 = 0 → tb (s' 3037) (s' 3039) (s' 3017) (c' 44) (x + 1) y) ∧ (s 3049 ≤ s' 3049) ∧ (s 3049 ≤ 32768 → s' 3049 ≤ 32768)) := by
        intro j38 b41 hj40
        refine tt_k 5 (S' := (191, [some (.inr (.inl 30)), some (.inl x), some (.inl y), some (.inl p_), some (.inl r27), some (.inl j38), some (.inl 0), none, none, none], [.inl (s 3036)], n, D, (us (us s 3045 j7) 3045 ((max 0 (min (s 3017) j13)))), p, c)) rfl ?_
        have b42 : 0 ≤ (s 3036) ∧ (s 3036) ≤ 1 := hS 3036
        refine tz_eq (x := (s 3036)) rfl rfl (by omega) (fun h43 => ?_) (fun h43 => ?_)
        · show tt Zi d 173 (281, [some (.inr (.inl 30)), some (.inl x), some (.inl y), some (.inl p_), some (.inl r27), some (.inl j38), some (.inl 0), none, none, none], [], n, D, (us (us s 3045 j7) 3045 ((max 0 (min (s 3017) j13)))), p, c) _
          refine tt_k 1 (S' := (282, [some (.inr (.inl 30)), some (.inl x), some (.inl y), some (.inl p_), some (.inl r27), some (.inl j38), some (.inl 0), none, none, none], [.inr (.inl 30)], n, D, (us (us s 3045 j7) 3045 ((max 0 (min (s 3017) j13)))), p, c)) rfl ?_
          refine tt_cl (by omega) rfl (k_ready (Zi := Zi) (D := D) (s := (us (us s 3045 j7) 3045 ((max 0 (min (s 3017) j13))))) (p := p) (c := c) (by omega) (bS_us (bS_us hS (show -65535 ≤ j7 ∧ j7 ≤ 131070 by omega)) (show -65535 ≤ (max 0 (min (s 3017) j13)) ∧ (max 0 (min (s 3017) j13)) ≤ 131070 by omega)) hC ) ?_
          rintro _ _ ⟨s44, rfl, rfl, hS44, f45, k46, k47, k48, k49⟩
          have hc50 : mv s44 := mv_fr f45 (by decide) (mv_us (by decide) (mv_us (by decide) hp0))
          show tt Zi d 173 (285, [some (.inr (.inl 30)), some (.inl x), some (.inl y), some (.inl p_), some (.inl r27), some (.inl j38), some (.inl 0), none, none, none], [], n, D, s44, p, c) _
          replace k46 : (s 3049) ≤ (s44 3049) := k46
          replace k47 : (s44 3050) = 0 → 1 ≤ (s44 3054) := k47
          replace k48 : (s 3050) ≠ 0 → (s44 3050) ≠ 0 := k48
          replace k49 : (s 3049) ≤ 32768 → (s44 3049) ≤ 32768 := k49
          have b51 : 0 ≤ (s 3049) ∧ (s 3049) ≤ 32769 := hS 3049
          have b52 : 0 ≤ (s44 3049) ∧ (s44 3049) ≤ 32769 := hS44 3049
          have b53 : 0 ≤ (s44 3050) ∧ (s44 3050) ≤ 8 := hS44 3050
          have b54 : 0 ≤ (s44 3054) ∧ (s44 3054) ≤ 8 := hS44 3054
          have b55 : 0 ≤ (s 3050) ∧ (s 3050) ≤ 8 := hS 3050
          have e56 : s44 3039 = (s 3039) := (f45 3039 (by decide))
          have b57 : 0 ≤ (s44 3039) ∧ (s44 3039) ≤ 8192 := hS44 3039
          have b58 : 0 ≤ (s 3039) ∧ (s 3039) ≤ 8192 := hS 3039
          have e59 : s44 3017 = (s 3017) := (f45 3017 (by decide))
          have b60 : 0 ≤ (s44 3017) ∧ (s44 3017) ≤ 65535 := hS44 3017
          have b61 : 0 ≤ (s 3017) ∧ (s 3017) ≤ 65535 := hS 3017
          have e62 : s44 3024 = (s 3024) := (f45 3024 (by decide))
          have b63 : -2147483648 ≤ (s44 3024) ∧ (s44 3024) ≤ 2147483647 := hS44 3024
          have b64 : -2147483648 ≤ (s 3024) ∧ (s 3024) ≤ 2147483647 := hS 3024
          have e65 : s44 3025 = (s 3025) := (f45 3025 (by decide))
          have b66 : 0 ≤ (s44 3025) ∧ (s44 3025) ≤ 31 := hS44 3025
          have b67 : 0 ≤ (s 3025) ∧ (s 3025) ≤ 31 := hS 3025
          have e68 : s44 3026 = (s 3026) := (f45 3026 (by decide))
          have b69 : 0 ≤ (s44 3026) ∧ (s44 3026) ≤ 96 := hS44 3026
          have b70 : 0 ≤ (s 3026) ∧ (s 3026) ≤ 96 := hS 3026
          have e71 : s44 3037 = (s 3037) := (f45 3037 (by decide))
          have b72 : 0 ≤ (s44 3037) ∧ (s44 3037) ≤ 64 := hS44 3037
          have b73 : 0 ≤ (s 3037) ∧ (s 3037) ≤ 64 := hS 3037
          have e74 : s44 3045 = (max 0 (min (s 3017) j13)) := (f45 3045 (by decide))
          have b75 : -65535 ≤ (s44 3045) ∧ (s44 3045) ≤ 131070 := hS44 3045
          have e76 : s44 3036 = (s 3036) := (f45 3036 (by decide))
          have b77 : 0 ≤ (s44 3036) ∧ (s44 3036) ≤ 1 := hS44 3036
          refine tt_k 7 (S' := (298, [some (.inr (.inl 30)), some (.inl x), some (.inl y), some (.inl p_), some (.inl r27), some (.inl j38), some (.inl 0), some (.inl (s44 3053)), none, none], [.inl (s44 3026), .inl r27, .inr (.inl 30)], n, D, s44, p, c)) rfl ?_
          refine tt_cl (by omega) rfl (k_number (Zi := Zi) (D := D) (s := s44) (p := p) (c := c) (by omega) hS44 hC r27 (s44 3026) (by omega) (by omega) (show 0 ≤ (s44 3026) - (s44 3025) - 1 ∧ (s44 3026) - (s44 3025) - 1 ≤ 64 ∧ (s44 3025) ≤ 16 by omega)) ?_
          rintro _ _ ⟨s78, r79, rfl, rfl, hS78, f80, b81, k82, k83, k84⟩
          have hc85 : mv s78 := mv_fr f80 (by decide) hc50
          show tt Zi d 173 (301, [some (.inr (.inl 30)), some (.inl x), some (.inl y), some (.inl p_), some (.inl r27), some (.inl j38), some (.inl 0), some (.inl (s44 3053)), none, none], [.inl r79], n, D, s78, p, c) _
          replace k82 : (s44 3049) ≤ (s78 3049) := k82
          replace k83 : (s44 3050) ≠ 0 → (s78 3050) ≠ 0 := k83
          replace k84 : (s44 3049) ≤ 32768 → (s78 3049) ≤ 32768 := k84
          have b86 : 0 ≤ (s78 3049) ∧ (s78 3049) ≤ 32769 := hS78 3049
          have b87 : 0 ≤ (s78 3050) ∧ (s78 3050) ≤ 8 := hS78 3050
          have e88 : s78 3039 = (s44 3039) := (f80 3039 (by decide))
          have b89 : 0 ≤ (s78 3039) ∧ (s78 3039) ≤ 8192 := hS78 3039
          have e90 : s78 3017 = (s44 3017) := (f80 3017 (by decide))
          have b91 : 0 ≤ (s78 3017) ∧ (s78 3017) ≤ 65535 := hS78 3017
          have e92 : s78 3024 = (s44 3024) := (f80 3024 (by decide))
          have b93 : -2147483648 ≤ (s78 3024) ∧ (s78 3024) ≤ 2147483647 := hS78 3024
          have e94 : s78 3025 = (s44 3025) := (f80 3025 (by decide))
          have b95 : 0 ≤ (s78 3025) ∧ (s78 3025) ≤ 31 := hS78 3025
          have e96 : s78 3026 = (s44 3026) := (f80 3026 (by decide))
          have b97 : 0 ≤ (s78 3026) ∧ (s78 3026) ≤ 96 := hS78 3026
          have e98 : s78 3037 = (s44 3037) := (f80 3037 (by decide))
          have b99 : 0 ≤ (s78 3037) ∧ (s78 3037) ≤ 64 := hS78 3037
          have e100 : s78 3045 = (s44 3045) := (f80 3045 (by decide))
          have b101 : -65535 ≤ (s78 3045) ∧ (s78 3045) ≤ 131070 := hS78 3045
          have e102 : s78 3036 = (s44 3036) := (f80 3036 (by decide))
          have b103 : 0 ≤ (s78 3036) ∧ (s78 3036) ≤ 1 := hS78 3036
          refine tt_k 3 (S' := (306, [some (.inr (.inl 30)), some (.inl x), some (.inl y), some (.inl p_), some (.inl r27), some (.inl j38), some (.inl 0), some (.inl (s44 3053)), some (.inl r79), none], [.inl 2, .inl r79], n, D, s78, p, c)) rfl ?_
          refine tt_rmp (x := r79) (y := 2) rfl (by omega) ?_
          show tt Zi d 173 (307, [some (.inr (.inl 30)), some (.inl x), some (.inl y), some (.inl p_), some (.inl r27), some (.inl j38), some (.inl 0), some (.inl (s44 3053)), some (.inl r79), none], [.inl (r79 % 2)], n, D, s78, p, c) _
          refine tt_k 1 (S' := (308, [some (.inr (.inl 30)), some (.inl x), some (.inl y), some (.inl p_), some (.inl r27), some (.inl j38), some (.inl 0), some (.inl (s44 3053)), some (.inl r79), none], [.inl 1, .inl (r79 % 2)], n, D, s78, p, c)) rfl ?_
          have K105 : ∀ (j104 : Int) , (0 ≤ j104 ∧ j104 ≤ 1) → (True) → tt Zi d 173 (316, [some (.inr (.inl 30)), some (.inl x), some (.inl y), some (.inl p_), some (.inl r27), some (.inl j38), some (.inl 0), some (.inl (s44 3053)), some (.inl r79), none], [.inl j104], n, D, s78, p, c) (fun R H => ∃ (s' : Nat → Int) (c' : Nat → Nat → Int), R = .inl none ∧ H = (n, D, s', p, c') ∧ bS s' ∧ bC D c' ∧ fr s s' [3045, 3049, 3050, 3051, 3052, 3053, 3054] ∧ frc c c' [36, 37, 38, 39, 44] ∧ (s' 3050 = 0 → pl s' (t + 1) c') ∧ (s' 3050 = 0 → tb (s' 3037) (s' 3039) (s' 3017) (c' 44) (x + 1) y) ∧ (s 3049 ≤ s' 3049) ∧ (s 3049 ≤ 32768 → s' 3049 ≤ 32768)) := by
            intro j104 b107 hj106
            refine tt_k 2 (S' := (320, [some (.inr (.inl 30)), some (.inl x), some (.inl y), some (.inl p_), some (.inl r27), some (.inl j38), some (.inl 0), some (.inl (s44 3053)), some (.inl r79), some (.inl j104)], [.inl j38], n, D, s78, p, c)) rfl ?_
            have K109 : ∀ (j108 : Int) , (-1073741824 ≤ j108 ∧ j108 ≤ 1073741824) → (True) → tt Zi d 173 (364, [some (.inr (.inl 30)), some (.inl x), some (.inl y), some (.inl p_), some (.inl r27), some (.inl j38), some (.inl 0), some (.inl (s44 3053)), some (.inl r79), some (.inl j104)], [.inl j108], n, D, s78, p, c) (fun R H => ∃ (s' : Nat → Int) (c' : Nat → Nat → Int), R = .inl none ∧ H = (n, D, s', p, c') ∧ bS s' ∧ bC D c' ∧ fr s s' [3045, 3049, 3050, 3051, 3052, 3053, 3054] ∧ frc c c' [36, 37, 38, 39, 44] ∧ (s' 3050 = 0 → pl s' (t + 1) c') ∧ (s' 3050 = 0 → tb (s' 3037) (s' 3039) (s' 3017) (c' 44) (x + 1) y) ∧ (s 3049 ≤ s' 3049) ∧ (s 3049 ≤ 32768 → s' 3049 ≤ 32768)) := by
              intro j108 b111 hj110
              refine tt_k 3 (S' := (370, [some (.inr (.inl 30)), some (.inl x), some (.inl y), some (.inl p_), some (.inl r27), some (.inl j38), some (.inl j108), some (.inl (s44 3053)), some (.inl r79), some (.inl j104)], [.inl (s78 3050)], n, D, s78, p, c)) rfl ?_
              refine tz_ne (x := (s78 3050)) rfl rfl (by omega) (fun h112 => ?_) (fun h112 => ?_)
              · show tt Zi d 173 (390, [some (.inr (.inl 30)), some (.inl x), some (.inl y), some (.inl p_), some (.inl r27), some (.inl j38), some (.inl j108), some (.inl (s44 3053)), some (.inl r79), some (.inl j104)], [], n, D, s78, p, c) _
                have aW : (s78 3037) = s 3037 := ((f80 3037 (by decide)).trans (f45 3037 (by decide)))
                have aB : (s78 3039) = s 3039 := ((f80 3039 (by decide)).trans (f45 3039 (by decide)))
                have aM : (s78 3017) = s 3017 := ((f80 3017 (by decide)).trans (f45 3017 (by decide)))
                have aQ : (s78 3025) = s 3025 := ((f80 3025 (by decide)).trans (f45 3025 (by decide)))
                have aT : (s78 3036) = s 3036 := ((f80 3036 (by decide)).trans (f45 3036 (by decide)))
                have b113 : 0 ≤ (s44 3053) ∧ (s44 3053) ≤ 32768 := hS44 3053
                refine tt_mono (k_regR2 (Zi := Zi) (D := D) (s := s78) (p := p) (c := c) (by omega) hS78 hC t x y p_ r27 j38 j108 (s44 3053) r79 j104 (by omega) (by omega) (by omega) (by omega) hc85 (show (s78 3036) = 0 ∧ x < (s78 3037) by omega) (show 0 ≤ (s78 3045) ∧ (s78 3045) ≤ (s78 3017) by omega) (pl_eq aQ rfl rfl rfl rfl hp3) (show 0 ≤ t ∧ t ≤ 4095 by omega) (by rw [aW, aB, aM]; exact hp5) (show (s78 3050) = 0 → -((s78 3024) / 2) ≤ j108 ∧ j108 ≤ ((s78 3024) - 1) / 2 by omega)) ?_
                rintro _ _ ⟨c114, rfl, rfl, hC114, g115, k116, k117⟩
                exact ⟨s78, c114, rfl, rfl, hS78, hC114, (fr_tr (fr_tr (fr_us (by decide) (fr_us (by decide) fr_rf)) f45 (by decide)) f80 (by decide)), (frc_tr frc_rf g115 (by decide)), k116, k117, by show s 3049 ≤ (s78 3049); omega, by show s 3049 ≤ 32768 → (s78 3049) ≤ 32768; omega⟩
              · show tt Zi d 173 (373, [some (.inr (.inl 30)), some (.inl x), some (.inl y), some (.inl p_), some (.inl r27), some (.inl j38), some (.inl j108), some (.inl (s44 3053)), some (.inl r79), some (.inl j104)], [], n, D, s78, p, c) _
                refine tt_k 2 (S' := (376, [some (.inr (.inl 30)), some (.inl x), some (.inl y), some (.inl p_), some (.inl r27), some (.inl j38), some (.inl j108), some (.inl (s44 3053)), some (.inl r79), some (.inl j104)], [.inl j108, .inr (.inl 30)], n, D, s78, p, c)) rfl ?_
                refine tt_cl (by omega) rfl (k_isError (Zi := Zi) (D := D) (s := s78) (p := p) (c := c) (by omega) hS78 hC j108 (by omega) (show 1 ≤ (s78 3024) ∧ (s78 3024) ≤ 65536 by omega)) ?_
                rintro _ _ ⟨r118, rfl, rfl, b119, k120⟩
                show tt Zi d 173 (379, [some (.inr (.inl 30)), some (.inl x), some (.inl y), some (.inl p_), some (.inl r27), some (.inl j38), some (.inl j108), some (.inl (s44 3053)), some (.inl r79), some (.inl j104)], [.inl r118], n, D, s78, p, c) _
                replace k120 : (r118 = 1 ∧ -((s78 3024) / 2) ≤ j108 ∧ j108 ≤ ((s78 3024) - 1) / 2) ∨ (r118 = 0 ∧ ¬ (-((s78 3024) / 2) ≤ j108 ∧ j108 ≤ ((s78 3024) - 1) / 2)) := k120
                refine tz_ne (x := r118) rfl rfl (by omega) (fun h121 => ?_) (fun h121 => ?_)
                · show tt Zi d 173 (390, [some (.inr (.inl 30)), some (.inl x), some (.inl y), some (.inl p_), some (.inl r27), some (.inl j38), some (.inl j108), some (.inl (s44 3053)), some (.inl r79), some (.inl j104)], [], n, D, s78, p, c) _
                  have aW : (s78 3037) = s 3037 := ((f80 3037 (by decide)).trans (f45 3037 (by decide)))
                  have aB : (s78 3039) = s 3039 := ((f80 3039 (by decide)).trans (f45 3039 (by decide)))
                  have aM : (s78 3017) = s 3017 := ((f80 3017 (by decide)).trans (f45 3017 (by decide)))
                  have aQ : (s78 3025) = s 3025 := ((f80 3025 (by decide)).trans (f45 3025 (by decide)))
                  have aT : (s78 3036) = s 3036 := ((f80 3036 (by decide)).trans (f45 3036 (by decide)))
                  have b122 : 0 ≤ (s44 3053) ∧ (s44 3053) ≤ 32768 := hS44 3053
                  refine tt_mono (k_regR2 (Zi := Zi) (D := D) (s := s78) (p := p) (c := c) (by omega) hS78 hC t x y p_ r27 j38 j108 (s44 3053) r79 j104 (by omega) (by omega) (by omega) (by omega) hc85 (show (s78 3036) = 0 ∧ x < (s78 3037) by omega) (show 0 ≤ (s78 3045) ∧ (s78 3045) ≤ (s78 3017) by omega) (pl_eq aQ rfl rfl rfl rfl hp3) (show 0 ≤ t ∧ t ≤ 4095 by omega) (by rw [aW, aB, aM]; exact hp5) (show (s78 3050) = 0 → -((s78 3024) / 2) ≤ j108 ∧ j108 ≤ ((s78 3024) - 1) / 2 by omega)) ?_
                  rintro _ _ ⟨c123, rfl, rfl, hC123, g124, k125, k126⟩
                  exact ⟨s78, c123, rfl, rfl, hS78, hC123, (fr_tr (fr_tr (fr_us (by decide) (fr_us (by decide) fr_rf)) f45 (by decide)) f80 (by decide)), (frc_tr frc_rf g124 (by decide)), k125, k126, by show s 3049 ≤ (s78 3049); omega, by show s 3049 ≤ 32768 → (s78 3049) ≤ 32768; omega⟩
                · show tt Zi d 173 (382, [some (.inr (.inl 30)), some (.inl x), some (.inl y), some (.inl p_), some (.inl r27), some (.inl j38), some (.inl j108), some (.inl (s44 3053)), some (.inl r79), some (.inl j104)], [], n, D, s78, p, c) _
                  refine tt_k 3 (S' := (387, [some (.inr (.inl 30)), some (.inl x), some (.inl y), some (.inl p_), some (.inl r27), some (.inl j38), some (.inl j108), some (.inl (s44 3053)), some (.inl r79), some (.inl j104)], [.inl (s44 3053), .inl 7, .inr (.inl 30)], n, D, s78, p, c)) rfl ?_
                  have b127 : 0 ≤ (s44 3053) ∧ (s44 3053) ≤ 32768 := hS44 3053
                  refine tt_cl (by omega) rfl (k_fail (Zi := Zi) (D := D) (s := s78) (p := p) (c := c) (by omega) hS78 hC 7 (s44 3053) (by omega) (by omega)) ?_
                  rintro _ _ ⟨s128, rfl, rfl, hS128, f129, k130, k131⟩
                  have hc132 : mv s128 := mv_fr f129 (by decide) hc85
                  show tt Zi d 173 (390, [some (.inr (.inl 30)), some (.inl x), some (.inl y), some (.inl p_), some (.inl r27), some (.inl j38), some (.inl j108), some (.inl (s44 3053)), some (.inl r79), some (.inl j104)], [], n, D, s128, p, c) _
                  replace k130 : ((s78 3050) = 0 → (s128 3050) = 7 ∧ (s128 3051) = (s44 3053)) := k130
                  replace k131 : ((s78 3050) ≠ 0 → (s128 3050) = (s78 3050) ∧ (s128 3051) = (s78 3051)) := k131
                  have b133 : 0 ≤ (s128 3050) ∧ (s128 3050) ≤ 8 := hS128 3050
                  have b134 : -1 ≤ (s128 3051) ∧ (s128 3051) ≤ 32769 := hS128 3051
                  have b135 : -1 ≤ (s78 3051) ∧ (s78 3051) ≤ 32769 := hS78 3051
                  have e136 : s128 3039 = (s78 3039) := (f129 3039 (by decide))
                  have b137 : 0 ≤ (s128 3039) ∧ (s128 3039) ≤ 8192 := hS128 3039
                  have e138 : s128 3017 = (s78 3017) := (f129 3017 (by decide))
                  have b139 : 0 ≤ (s128 3017) ∧ (s128 3017) ≤ 65535 := hS128 3017
                  have e140 : s128 3024 = (s78 3024) := (f129 3024 (by decide))
                  have b141 : -2147483648 ≤ (s128 3024) ∧ (s128 3024) ≤ 2147483647 := hS128 3024
                  have e142 : s128 3025 = (s78 3025) := (f129 3025 (by decide))
                  have b143 : 0 ≤ (s128 3025) ∧ (s128 3025) ≤ 31 := hS128 3025
                  have e144 : s128 3026 = (s78 3026) := (f129 3026 (by decide))
                  have b145 : 0 ≤ (s128 3026) ∧ (s128 3026) ≤ 96 := hS128 3026
                  have e146 : s128 3037 = (s78 3037) := (f129 3037 (by decide))
                  have b147 : 0 ≤ (s128 3037) ∧ (s128 3037) ≤ 64 := hS128 3037
                  have e148 : s128 3045 = (s78 3045) := (f129 3045 (by decide))
                  have b149 : -65535 ≤ (s128 3045) ∧ (s128 3045) ≤ 131070 := hS128 3045
                  have e150 : s128 3049 = (s78 3049) := (f129 3049 (by decide))
                  have b151 : 0 ≤ (s128 3049) ∧ (s128 3049) ≤ 32769 := hS128 3049
                  have e152 : s128 3036 = (s78 3036) := (f129 3036 (by decide))
                  have b153 : 0 ≤ (s128 3036) ∧ (s128 3036) ≤ 1 := hS128 3036
                  have aW : (s128 3037) = s 3037 := ((f129 3037 (by decide)).trans ((f80 3037 (by decide)).trans (f45 3037 (by decide))))
                  have aB : (s128 3039) = s 3039 := ((f129 3039 (by decide)).trans ((f80 3039 (by decide)).trans (f45 3039 (by decide))))
                  have aM : (s128 3017) = s 3017 := ((f129 3017 (by decide)).trans ((f80 3017 (by decide)).trans (f45 3017 (by decide))))
                  have aQ : (s128 3025) = s 3025 := ((f129 3025 (by decide)).trans ((f80 3025 (by decide)).trans (f45 3025 (by decide))))
                  have aT : (s128 3036) = s 3036 := ((f129 3036 (by decide)).trans ((f80 3036 (by decide)).trans (f45 3036 (by decide))))
                  refine tt_mono (k_regR2 (Zi := Zi) (D := D) (s := s128) (p := p) (c := c) (by omega) hS128 hC t x y p_ r27 j38 j108 (s44 3053) r79 j104 (by omega) (by omega) (by omega) (by omega) hc132 (show (s128 3036) = 0 ∧ x < (s128 3037) by omega) (show 0 ≤ (s128 3045) ∧ (s128 3045) ≤ (s128 3017) by omega) (pl_eq aQ rfl rfl rfl rfl hp3) (show 0 ≤ t ∧ t ≤ 4095 by omega) (by rw [aW, aB, aM]; exact hp5) (show (s128 3050) = 0 → -((s128 3024) / 2) ≤ j108 ∧ j108 ≤ ((s128 3024) - 1) / 2 by omega)) ?_
                  rintro _ _ ⟨c154, rfl, rfl, hC154, g155, k156, k157⟩
                  exact ⟨s128, c154, rfl, rfl, hS128, hC154, (fr_tr (fr_tr (fr_tr (fr_us (by decide) (fr_us (by decide) fr_rf)) f45 (by decide)) f80 (by decide)) f129 (by decide)), (frc_tr frc_rf g155 (by decide)), k156, k157, by show s 3049 ≤ (s128 3049); omega, by show s 3049 ≤ 32768 → (s128 3049) ≤ 32768; omega⟩
            refine tz_eq (x := j38) rfl rfl (by omega) (fun h158 => ?_) (fun h158 => ?_)
            · show tt Zi d 173 (345, [some (.inr (.inl 30)), some (.inl x), some (.inl y), some (.inl p_), some (.inl r27), some (.inl j38), some (.inl 0), some (.inl (s44 3053)), some (.inl r79), some (.inl j104)], [], n, D, s78, p, c) _
              refine tt_k 1 (S' := (347, [some (.inr (.inl 30)), some (.inl x), some (.inl y), some (.inl p_), some (.inl r27), some (.inl j38), some (.inl 0), some (.inl (s44 3053)), some (.inl r79), some (.inl j104)], [.inl j104], n, D, s78, p, c)) rfl ?_
              refine tz_eq (x := j104) rfl rfl (by omega) (fun h159 => ?_) (fun h159 => ?_)
              · show tt Zi d 173 (360, [some (.inr (.inl 30)), some (.inl x), some (.inl y), some (.inl p_), some (.inl r27), some (.inl j38), some (.inl 0), some (.inl (s44 3053)), some (.inl r79), some (.inl j104)], [], n, D, s78, p, c) _
                refine tt_k 2 (S' := (363, [some (.inr (.inl 30)), some (.inl x), some (.inl y), some (.inl p_), some (.inl r27), some (.inl j38), some (.inl 0), some (.inl (s44 3053)), some (.inl r79), some (.inl j104)], [.inl 2, .inl r79], n, D, s78, p, c)) rfl ?_
                refine tt_dvp (x := r79) (y := 2) rfl (by omega) ?_
                show tt Zi d 173 (364, [some (.inr (.inl 30)), some (.inl x), some (.inl y), some (.inl p_), some (.inl r27), some (.inl j38), some (.inl 0), some (.inl (s44 3053)), some (.inl r79), some (.inl j104)], [.inl (r79 / 2)], n, D, s78, p, c) _
                exact K109 (r79 / 2)  (by omega) (trivial)
              · show tt Zi d 173 (350, [some (.inr (.inl 30)), some (.inl x), some (.inl y), some (.inl p_), some (.inl r27), some (.inl j38), some (.inl 0), some (.inl (s44 3053)), some (.inl r79), some (.inl j104)], [], n, D, s78, p, c) _
                refine tt_k 5 (S' := (356, [some (.inr (.inl 30)), some (.inl x), some (.inl y), some (.inl p_), some (.inl r27), some (.inl j38), some (.inl 0), some (.inl (s44 3053)), some (.inl r79), some (.inl j104)], [.inl 2, .inl (-(r79 + 1))], n, D, s78, p, c)) rfl ?_
                refine tt_div (x := (-(r79 + 1))) (y := 2) rfl (by omega) ?_
                show tt Zi d 173 (357, [some (.inr (.inl 30)), some (.inl x), some (.inl y), some (.inl p_), some (.inl r27), some (.inl j38), some (.inl 0), some (.inl (s44 3053)), some (.inl r79), some (.inl j104)], [.inl ((Int.tdiv (-(r79 + 1)) 2))], n, D, s78, p, c) _
                have b160 := tdv_bd (x := (-(r79 + 1))) (y := 2) (a := 1073741824) (by omega) (by omega) (by omega)
                refine tt_k 1 (S' := (364, [some (.inr (.inl 30)), some (.inl x), some (.inl y), some (.inl p_), some (.inl r27), some (.inl j38), some (.inl 0), some (.inl (s44 3053)), some (.inl r79), some (.inl j104)], [.inl ((Int.tdiv (-(r79 + 1)) 2))], n, D, s78, p, c)) rfl ?_
                exact K109 ((Int.tdiv (-(r79 + 1)) 2))  (by omega) (trivial)
            · show tt Zi d 173 (323, [some (.inr (.inl 30)), some (.inl x), some (.inl y), some (.inl p_), some (.inl r27), some (.inl j38), some (.inl 0), some (.inl (s44 3053)), some (.inl r79), some (.inl j104)], [], n, D, s78, p, c) _
              refine tt_k 1 (S' := (325, [some (.inr (.inl 30)), some (.inl x), some (.inl y), some (.inl p_), some (.inl r27), some (.inl j38), some (.inl 0), some (.inl (s44 3053)), some (.inl r79), some (.inl j104)], [.inl j104], n, D, s78, p, c)) rfl ?_
              refine tz_eq (x := j104) rfl rfl (by omega) (fun h161 => ?_) (fun h161 => ?_)
              · show tt Zi d 173 (335, [some (.inr (.inl 30)), some (.inl x), some (.inl y), some (.inl p_), some (.inl r27), some (.inl j38), some (.inl 0), some (.inl (s44 3053)), some (.inl r79), some (.inl j104)], [], n, D, s78, p, c) _
                refine tt_k 2 (S' := (338, [some (.inr (.inl 30)), some (.inl x), some (.inl y), some (.inl p_), some (.inl r27), some (.inl j38), some (.inl 0), some (.inl (s44 3053)), some (.inl r79), some (.inl j104)], [.inl 2, .inl r79], n, D, s78, p, c)) rfl ?_
                refine tt_dvp (x := r79) (y := 2) rfl (by omega) ?_
                show tt Zi d 173 (339, [some (.inr (.inl 30)), some (.inl x), some (.inl y), some (.inl p_), some (.inl r27), some (.inl j38), some (.inl 0), some (.inl (s44 3053)), some (.inl r79), some (.inl j104)], [.inl (r79 / 2)], n, D, s78, p, c) _
                refine tt_k 4 (S' := (364, [some (.inr (.inl 30)), some (.inl x), some (.inl y), some (.inl p_), some (.inl r27), some (.inl j38), some (.inl 0), some (.inl (s44 3053)), some (.inl r79), some (.inl j104)], [.inl (((-(r79 / 2)) - 1))], n, D, s78, p, c)) rfl ?_
                exact K109 (((-(r79 / 2)) - 1))  (by omega) (trivial)
              · show tt Zi d 173 (328, [some (.inr (.inl 30)), some (.inl x), some (.inl y), some (.inl p_), some (.inl r27), some (.inl j38), some (.inl 0), some (.inl (s44 3053)), some (.inl r79), some (.inl j104)], [], n, D, s78, p, c) _
                refine tt_k 2 (S' := (331, [some (.inr (.inl 30)), some (.inl x), some (.inl y), some (.inl p_), some (.inl r27), some (.inl j38), some (.inl 0), some (.inl (s44 3053)), some (.inl r79), some (.inl j104)], [.inl 2, .inl r79], n, D, s78, p, c)) rfl ?_
                refine tt_dvp (x := r79) (y := 2) rfl (by omega) ?_
                show tt Zi d 173 (332, [some (.inr (.inl 30)), some (.inl x), some (.inl y), some (.inl p_), some (.inl r27), some (.inl j38), some (.inl 0), some (.inl (s44 3053)), some (.inl r79), some (.inl j104)], [.inl (r79 / 2)], n, D, s78, p, c) _
                refine tt_k 1 (S' := (364, [some (.inr (.inl 30)), some (.inl x), some (.inl y), some (.inl p_), some (.inl r27), some (.inl j38), some (.inl 0), some (.inl (s44 3053)), some (.inl r79), some (.inl j104)], [.inl (r79 / 2)], n, D, s78, p, c)) rfl ?_
                exact K109 (r79 / 2)  (by omega) (trivial)
          refine tb_ne (x := (r79 % 2)) (y := 1) rfl rfl (by omega) (fun h162 => ?_) (fun h162 => ?_)
          · show tt Zi d 173 (315, [some (.inr (.inl 30)), some (.inl x), some (.inl y), some (.inl p_), some (.inl r27), some (.inl j38), some (.inl 0), some (.inl (s44 3053)), some (.inl r79), none], [], n, D, s78, p, c) _
            refine tt_k 1 (S' := (316, [some (.inr (.inl 30)), some (.inl x), some (.inl y), some (.inl p_), some (.inl r27), some (.inl j38), some (.inl 0), some (.inl (s44 3053)), some (.inl r79), none], [.inl 0], n, D, s78, p, c)) rfl ?_
            exact K105 0  (by omega) (trivial)
          · show tt Zi d 173 (311, [some (.inr (.inl 30)), some (.inl x), some (.inl y), some (.inl p_), some (.inl r27), some (.inl j38), some (.inl 0), some (.inl (s44 3053)), some (.inl r79), none], [], n, D, s78, p, c) _
            refine tt_k 2 (S' := (316, [some (.inr (.inl 30)), some (.inl x), some (.inl y), some (.inl p_), some (.inl r27), some (.inl j38), some (.inl 0), some (.inl (s44 3053)), some (.inl r79), none], [.inl 1], n, D, s78, p, c)) rfl ?_
            exact K105 1  (by omega) (trivial)
        · exfalso; omega
      refine tz_ne (x := (s 3018)) rfl rfl (by omega) (fun h163 => ?_) (fun h163 => ?_)
      · show tt Zi d 173 (181, [some (.inr (.inl 30)), some (.inl x), some (.inl y), some (.inl p_), some (.inl r27), none, none, none, none, none], [], n, D, (us (us s 3045 j7) 3045 ((max 0 (min (s 3017) j13)))), p, c) _
        refine tt_k 1 (S' := (182, [some (.inr (.inl 30)), some (.inl x), some (.inl y), some (.inl p_), some (.inl r27), none, none, none, none, none], [.inl 0], n, D, (us (us s 3045 j7) 3045 ((max 0 (min (s 3017) j13)))), p, c)) rfl ?_
        exact K39 0  (by omega) (trivial)
      · show tt Zi d 173 (154, [some (.inr (.inl 30)), some (.inl x), some (.inl y), some (.inl p_), some (.inl r27), none, none, none, none, none], [], n, D, (us (us s 3045 j7) 3045 ((max 0 (min (s 3017) j13)))), p, c) _
        refine tt_k 1 (S' := (156, [some (.inr (.inl 30)), some (.inl x), some (.inl y), some (.inl p_), some (.inl r27), none, none, none, none, none], [.inl r27], n, D, (us (us s 3045 j7) 3045 ((max 0 (min (s 3017) j13)))), p, c)) rfl ?_
        refine tz_ne (x := r27) rfl rfl (by omega) (fun h164 => ?_) (fun h164 => ?_)
        · show tt Zi d 173 (181, [some (.inr (.inl 30)), some (.inl x), some (.inl y), some (.inl p_), some (.inl r27), none, none, none, none, none], [], n, D, (us (us s 3045 j7) 3045 ((max 0 (min (s 3017) j13)))), p, c) _
          refine tt_k 1 (S' := (182, [some (.inr (.inl 30)), some (.inl x), some (.inl y), some (.inl p_), some (.inl r27), none, none, none, none, none], [.inl 0], n, D, (us (us s 3045 j7) 3045 ((max 0 (min (s 3017) j13)))), p, c)) rfl ?_
          exact K39 0  (by omega) (trivial)
        · show tt Zi d 173 (159, [some (.inr (.inl 30)), some (.inl x), some (.inl y), some (.inl p_), some (.inl r27), none, none, none, none, none], [], n, D, (us (us s 3045 j7) 3045 ((max 0 (min (s 3017) j13)))), p, c) _
          refine tt_k 4 (S' := (165, [some (.inr (.inl 30)), some (.inl x), some (.inl y), some (.inl p_), some (.inl r27), none, none, none, none, none], [.inl p_, .inr (.inl 37), .inl 2], n, D, (us (us s 3045 j7) 3045 ((max 0 (min (s 3017) j13)))), p, c)) rfl ?_
          refine tt_ildv (i := p_) (v := (c 37 (p_).toNat)) rfl rfl (by omega) rfl ?_
          show tt Zi d 173 (166, [some (.inr (.inl 30)), some (.inl x), some (.inl y), some (.inl p_), some (.inl r27), none, none, none, none, none], [.inl (c 37 (p_).toNat), .inl 2], n, D, (us (us s 3045 j7) 3045 ((max 0 (min (s 3017) j13)))), p, c) _
          have b165 : -2147483648 ≤ (c 37 (p_).toNat) ∧ (c 37 (p_).toNat) ≤ 2147483647 := hC 37 _
          refine tt_k 4 (S' := (172, [some (.inr (.inl 30)), some (.inl x), some (.inl y), some (.inl p_), some (.inl r27), none, none, none, none, none], [.inl p_, .inr (.inl 39), .inl ((2 * (c 37 (p_).toNat)))], n, D, (us (us s 3045 j7) 3045 ((max 0 (min (s 3017) j13)))), p, c)) rfl ?_
          refine tt_ildv (i := p_) (v := (c 39 (p_).toNat)) rfl rfl (by omega) rfl ?_
          show tt Zi d 173 (173, [some (.inr (.inl 30)), some (.inl x), some (.inl y), some (.inl p_), some (.inl r27), none, none, none, none, none], [.inl (c 39 (p_).toNat), .inl ((2 * (c 37 (p_).toNat)))], n, D, (us (us s 3045 j7) 3045 ((max 0 (min (s 3017) j13)))), p, c) _
          have b166 : -2147483648 ≤ (c 39 (p_).toNat) ∧ (c 39 (p_).toNat) ≤ 2147483647 := hC 39 _
          refine tt_k 1 (S' := (174, [some (.inr (.inl 30)), some (.inl x), some (.inl y), some (.inl p_), some (.inl r27), none, none, none, none, none], [.inl ((-(c 39 (p_).toNat))), .inl ((2 * (c 37 (p_).toNat)))], n, D, (us (us s 3045 j7) 3045 ((max 0 (min (s 3017) j13)))), p, c)) rfl ?_
          refine tb_gt (x := (2 * (c 37 (p_).toNat))) (y := (-(c 39 (p_).toNat))) rfl rfl (by omega) (fun h167 => ?_) (fun h167 => ?_)
          · show tt Zi d 173 (181, [some (.inr (.inl 30)), some (.inl x), some (.inl y), some (.inl p_), some (.inl r27), none, none, none, none, none], [], n, D, (us (us s 3045 j7) 3045 ((max 0 (min (s 3017) j13)))), p, c) _
            refine tt_k 1 (S' := (182, [some (.inr (.inl 30)), some (.inl x), some (.inl y), some (.inl p_), some (.inl r27), none, none, none, none, none], [.inl 0], n, D, (us (us s 3045 j7) 3045 ((max 0 (min (s 3017) j13)))), p, c)) rfl ?_
            exact K39 0  (by omega) (trivial)
          · show tt Zi d 173 (177, [some (.inr (.inl 30)), some (.inl x), some (.inl y), some (.inl p_), some (.inl r27), none, none, none, none, none], [], n, D, (us (us s 3045 j7) 3045 ((max 0 (min (s 3017) j13)))), p, c) _
            refine tt_k 2 (S' := (182, [some (.inr (.inl 30)), some (.inl x), some (.inl y), some (.inl p_), some (.inl r27), none, none, none, none, none], [.inl 1], n, D, (us (us s 3045 j7) 3045 ((max 0 (min (s 3017) j13)))), p, c)) rfl ?_
            exact K39 1  (by omega) (trivial)
    refine tz_eq (x := (s 3046)) rfl rfl (by omega) (fun h168 => ?_) (fun h168 => ?_)
    · show tt Zi d 173 (109, [some (.inr (.inl 30)), some (.inl x), some (.inl y), some (.inl p_), none, none, none, none, none, none], [.inl (s 3017), .inl 0, .inr (.inl 30)], n, D, (us s 3045 j7), p, c) _
      refine tt_k 5 (S' := (118, [some (.inr (.inl 30)), some (.inl x), some (.inl y), some (.inl p_), none, none, none, none, none, none], [.inl p_, .inr (.inl 38), .inl j7, .inl (s 3017), .inl 0, .inr (.inl 30)], n, D, (us s 3045 j7), p, c)) rfl ?_
      refine tt_ildv (i := p_) (v := (c 38 (p_).toNat)) rfl rfl (by omega) rfl ?_
      show tt Zi d 173 (119, [some (.inr (.inl 30)), some (.inl x), some (.inl y), some (.inl p_), none, none, none, none, none, none], [.inl (c 38 (p_).toNat), .inl j7, .inl (s 3017), .inl 0, .inr (.inl 30)], n, D, (us s 3045 j7), p, c) _
      have b169 : -2147483648 ≤ (c 38 (p_).toNat) ∧ (c 38 (p_).toNat) ≤ 2147483647 := hC 38 _
      refine tt_k 1 (S' := (120, [some (.inr (.inl 30)), some (.inl x), some (.inl y), some (.inl p_), none, none, none, none, none, none], [.inl ((j7 + (c 38 (p_).toNat))), .inl (s 3017), .inl 0, .inr (.inl 30)], n, D, (us s 3045 j7), p, c)) rfl ?_
      exact K14 ((j7 + (c 38 (p_).toNat)))  (by omega) (by omega) (trivial)
    · show tt Zi d 173 (95, [some (.inr (.inl 30)), some (.inl x), some (.inl y), some (.inl p_), none, none, none, none, none, none], [.inl (s 3017), .inl 0, .inr (.inl 30)], n, D, (us s 3045 j7), p, c) _
      refine tt_k 5 (S' := (104, [some (.inr (.inl 30)), some (.inl x), some (.inl y), some (.inl p_), none, none, none, none, none, none], [.inl p_, .inr (.inl 38), .inl j7, .inl (s 3017), .inl 0, .inr (.inl 30)], n, D, (us s 3045 j7), p, c)) rfl ?_
      refine tt_ildv (i := p_) (v := (c 38 (p_).toNat)) rfl rfl (by omega) rfl ?_
      show tt Zi d 173 (105, [some (.inr (.inl 30)), some (.inl x), some (.inl y), some (.inl p_), none, none, none, none, none, none], [.inl (c 38 (p_).toNat), .inl j7, .inl (s 3017), .inl 0, .inr (.inl 30)], n, D, (us s 3045 j7), p, c) _
      have b170 : -2147483648 ≤ (c 38 (p_).toNat) ∧ (c 38 (p_).toNat) ≤ 2147483647 := hC 38 _
      refine tt_k 2 (S' := (120, [some (.inr (.inl 30)), some (.inl x), some (.inl y), some (.inl p_), none, none, none, none, none, none], [.inl ((j7 - (c 38 (p_).toNat))), .inl (s 3017), .inl 0, .inr (.inl 30)], n, D, (us s 3045 j7), p, c)) rfl ?_
      exact K14 ((j7 - (c 38 (p_).toNat)))  (by omega) (by omega) (trivial)
  refine tb_lt (x := (s 3043)) (y := (max (s 3041) (s 3042))) rfl rfl (by omega) (fun h171 => ?_) (fun h171 => ?_)
  · show tt Zi d 173 (33, [some (.inr (.inl 30)), some (.inl x), some (.inl y), some (.inl p_), none, none, none, none, none, none], [.inr (.inl 30)], n, D, s, p, c) _
    refine tt_k 6 (S' := (45, [some (.inr (.inl 30)), some (.inl x), some (.inl y), some (.inl p_), none, none, none, none, none, none], [.inl (s 3042), .inl (s 3041), .inl (s 3043), .inr (.inl 30)], n, D, s, p, c)) rfl ?_
    refine tt_cl (by omega) rfl (k_less (Zi := Zi) (D := D) (s := s) (p := p) (c := c) (by omega) hS hC (s 3041) (s 3042) (by omega) (by omega)) ?_
    rintro _ _ ⟨r172, rfl, rfl, b173, k174⟩
    show tt Zi d 173 (48, [some (.inr (.inl 30)), some (.inl x), some (.inl y), some (.inl p_), none, none, none, none, none, none], [.inl r172, .inl (s 3043), .inr (.inl 30)], n, D, s, p, c) _
    replace k174 : r172 = min (s 3041) (s 3042) := k174
    subst k174
    show tt Zi d 173 (48, [some (.inr (.inl 30)), some (.inl x), some (.inl y), some (.inl p_), none, none, none, none, none, none], [.inl (min (s 3041) (s 3042)), .inl (s 3043), .inr (.inl 30)], n, D, s, p, c) _
    refine tb_gt (x := (s 3043)) (y := (min (s 3041) (s 3042))) rfl rfl (by omega) (fun h175 => ?_) (fun h175 => ?_)
    · show tt Zi d 173 (65, [some (.inr (.inl 30)), some (.inl x), some (.inl y), some (.inl p_), none, none, none, none, none, none], [.inr (.inl 30)], n, D, s, p, c) _
      refine tt_k 8 (S' := (79, [some (.inr (.inl 30)), some (.inl x), some (.inl y), some (.inl p_), none, none, none, none, none, none], [.inl ((((s 3041) + (s 3042)) - (s 3043))), .inr (.inl 30)], n, D, s, p, c)) rfl ?_
      exact K8 ((((s 3041) + (s 3042)) - (s 3043)))  (by omega) (by omega) (trivial)
    · show tt Zi d 173 (51, [some (.inr (.inl 30)), some (.inl x), some (.inl y), some (.inl p_), none, none, none, none, none, none], [.inr (.inl 30)], n, D, s, p, c) _
      refine tt_k 4 (S' := (59, [some (.inr (.inl 30)), some (.inl x), some (.inl y), some (.inl p_), none, none, none, none, none, none], [.inl (s 3042), .inl (s 3041), .inr (.inl 30)], n, D, s, p, c)) rfl ?_
      refine tt_cl (by omega) rfl (k_more (Zi := Zi) (D := D) (s := s) (p := p) (c := c) (by omega) hS hC (s 3041) (s 3042) (by omega) (by omega)) ?_
      rintro _ _ ⟨r176, rfl, rfl, b177, k178⟩
      show tt Zi d 173 (62, [some (.inr (.inl 30)), some (.inl x), some (.inl y), some (.inl p_), none, none, none, none, none, none], [.inl r176, .inr (.inl 30)], n, D, s, p, c) _
      replace k178 : r176 = max (s 3041) (s 3042) := k178
      subst k178
      show tt Zi d 173 (62, [some (.inr (.inl 30)), some (.inl x), some (.inl y), some (.inl p_), none, none, none, none, none, none], [.inl (max (s 3041) (s 3042)), .inr (.inl 30)], n, D, s, p, c) _
      refine tt_k 1 (S' := (79, [some (.inr (.inl 30)), some (.inl x), some (.inl y), some (.inl p_), none, none, none, none, none, none], [.inl (max (s 3041) (s 3042)), .inr (.inl 30)], n, D, s, p, c)) rfl ?_
      exact K8 (max (s 3041) (s 3042))  (by omega) (by omega) (trivial)
  · show tt Zi d 173 (19, [some (.inr (.inl 30)), some (.inl x), some (.inl y), some (.inl p_), none, none, none, none, none, none], [.inr (.inl 30)], n, D, s, p, c) _
    refine tt_k 4 (S' := (27, [some (.inr (.inl 30)), some (.inl x), some (.inl y), some (.inl p_), none, none, none, none, none, none], [.inl (s 3042), .inl (s 3041), .inr (.inl 30)], n, D, s, p, c)) rfl ?_
    refine tt_cl (by omega) rfl (k_less (Zi := Zi) (D := D) (s := s) (p := p) (c := c) (by omega) hS hC (s 3041) (s 3042) (by omega) (by omega)) ?_
    rintro _ _ ⟨r179, rfl, rfl, b180, k181⟩
    show tt Zi d 173 (30, [some (.inr (.inl 30)), some (.inl x), some (.inl y), some (.inl p_), none, none, none, none, none, none], [.inl r179, .inr (.inl 30)], n, D, s, p, c) _
    replace k181 : r179 = min (s 3041) (s 3042) := k181
    subst k181
    show tt Zi d 173 (30, [some (.inr (.inl 30)), some (.inl x), some (.inl y), some (.inl p_), none, none, none, none, none, none], [.inl (min (s 3041) (s 3042)), .inr (.inl 30)], n, D, s, p, c) _
    refine tt_k 1 (S' := (79, [some (.inr (.inl 30)), some (.inl x), some (.inl y), some (.inl p_), none, none, none, none, none, none], [.inl (min (s 3041) (s 3042)), .inr (.inl 30)], n, D, s, p, c)) rfl ?_
    exact K8 (min (s 3041) (s 3042))  (by omega) (by omega) (trivial)
