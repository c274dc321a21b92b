/-! the reference reads a sample of a place -/
theorem k_le_q {s : Nat → Int} {t k S : Int} {c : Nat → Nat → Int} {i : Nat} (h : mv s) (hp : pli s t c i) (k0 : 0 ≤ k) (hS : 2 * S ≤ 2 * c 36 i + c 39 i) (h2 : k = 0 ∨ c 39 i * 2 ^ (k - 1).toNat < S) : k ≤ s 3025 ∧ s 3025 ≤ 16 := by
  obtain ⟨p1, p2, p3, p4, p5, p6, p7, p8, p9⟩ := hp
  obtain ⟨q1, q2, q3, q4, q5⟩ := mv_q h
  have e : (k - 1).toNat = k.toNat - 1 := by omega
  rw [e] at h2
  have h3 := ex_q (S := S) (N := c 39 i) (k := k.toNat) (q := qq s) p3 (by omega) (by omega)
  omega
set_option maxRecDepth 100000 in
set_option maxHeartbeats 4000000 in
theorem k_regR2 {Zi : Nat → Option (Nat × (Nat → Int))} {d n : Nat} {D : Nat → Nat × Nat} {s : Nat → Int} {p : Nat → Nat} {c : Nat → Nat → Int} (hd : 3 ≤ d) (hS : bS s) (hC : bC D c) (t : Int) (x : Int) (y : Int) (p_ : Int) (l4 : Int) (l5 : Int) (e : Int) (l7 : Int) (l8 : Int) (l9 : Int) (b_x : 0 ≤ x ∧ x ≤ 63) (b_y : 0 ≤ y ∧ y ≤ 63) (b_p_ : 0 ≤ p_ ∧ p_ ≤ 364) (b_e : -1073741824 ≤ e ∧ e ≤ 1073741824) (hp0 : mv s) (hp1 : s 3036 = 0 ∧ x < s 3037) (hp2 : 0 ≤ s 3045 ∧ s 3045 ≤ s 3017) (hp3 : pl s t c) (hp4 : 0 ≤ t ∧ t ≤ 4095) (hp5 : tb (s 3037) (s 3039) (s 3017) (c 44) x y) (hp6 : s 3050 = 0 → -(s 3024 / 2) ≤ e ∧ e ≤ (s 3024 - 1) / 2) : tt Zi d 173 (390, [some (.inr (.inl 30)), some (.inl x), some (.inl y), some (.inl p_), some (.inl l4), some (.inl l5), some (.inl e), some (.inl l7), some (.inl l8), some (.inl l9)], [], n, D, s, p, c) (fun R H => ∃ (c' : Nat → Nat → Int), R = .inl none ∧ H = (n, D, s, p, c') ∧ bC D c' ∧ frc c c' [36, 37, 38, 39, 44] ∧ (s 3050 = 0 → pl s (t + 1) c') ∧ (s 3050 = 0 → tb (s 3037) (s 3039) (s 3017) (c' 44) (x + 1) y)) := by
  have mvx := mv_fx hp0
  have hi := hp3 (p_).toNat (by omega)
  have hb := pl_bd hp0 (by omega) hi
  refine tt_k 2 (S' := (394, [some (.inr (.inl 30)), some (.inl x), some (.inl y), some (.inl p_), some (.inl l4), some (.inl l5), some (.inl e), some (.inl l7), some (.inl l8), some (.inl l9)], [.inl (s 3050)], n, D, s, p, c)) rfl ?_
  have b1 : 0 ≤ (s 3050) ∧ (s 3050) ≤ 8 := hS 3050
  refine tz_le (x := (s 3050)) rfl rfl (by omega) (fun h2 => ?_) (fun h2 => ?_)
  · show tt Zi d 173 (398, [some (.inr (.inl 30)), some (.inl x), some (.inl y), some (.inl p_), some (.inl l4), some (.inl l5), some (.inl e), some (.inl l7), some (.inl l8), some (.inl l9)], [], n, D, s, p, c) _
    refine tt_k 12 (S' := (416, [some (.inr (.inl 30)), some (.inl x), some (.inl y), some (.inl p_), some (.inl l4), some (.inl l5), some (.inl e), some (.inl l7), some (.inl l8), some (.inl l9)], [.inl e, .inr (.inl 30), .inl ((((s 3039) + (64 * y)) + x)), .inr (.inl 44)], n, D, s, p, c)) rfl ?_
    have hz := hp6 (by omega)
    have b3 : -65535 ≤ (s 3045) ∧ (s 3045) ≤ 131070 := hS 3045
    refine tt_cl (by omega) rfl (k_sampleOf (Zi := Zi) (D := D) (s := s) (p := p) (c := c) (by omega) hS hC e (by omega) hp0 (show -65535 ≤ (s 3045) ∧ (s 3045) ≤ 131070 by omega)) ?_
    rintro _ _ ⟨r4, rfl, rfl, b5, k6⟩
    show tt Zi d 173 (419, [some (.inr (.inl 30)), some (.inl x), some (.inl y), some (.inl p_), some (.inl l4), some (.inl l5), some (.inl e), some (.inl l7), some (.inl l8), some (.inl l9)], [.inl r4, .inl ((((s 3039) + (64 * y)) + x)), .inr (.inl 44)], n, D, s, p, c) _
    replace k6 : 0 ≤ r4 ∧ r4 ≤ (s 3017) := k6
    have b7 : 0 ≤ (s 3017) ∧ (s 3017) ≤ 65535 := hS 3017
    have b8 : 0 ≤ (s 3039) ∧ (s 3039) ≤ 8192 := hS 3039
    refine tt_ist (i := (((s 3039) + (64 * y)) + x)) (x := r4) rfl rfl (by omega) ?_
    show tt Zi d 173 (420, [some (.inr (.inl 30)), some (.inl x), some (.inl y), some (.inl p_), some (.inl l4), some (.inl l5), some (.inl e), some (.inl l7), some (.inl l8), some (.inl l9)], [], n, D, s, p, (uc c 44 (ua (c 44) ((((s 3039) + (64 * y)) + x)).toNat r4))) _
    refine tt_k 3 (S' := (424, [some (.inr (.inl 30)), some (.inl x), some (.inl y), some (.inl p_), some (.inl l4), some (.inl l5), some (.inl e), some (.inl l7), some (.inl l8), some (.inl l9)], [.inl e, .inl p_, .inr (.inl 30)], n, D, s, p, (uc c 44 (ua (c 44) ((((s 3039) + (64 * y)) + x)).toNat r4)))) rfl ?_
    have b9 : -2147483648 ≤ (s 3023) ∧ (s 3023) ≤ 2147483647 := hS 3023
    have b10 : 0 ≤ (s 3022) ∧ (s 3022) ≤ 65535 := hS 3022
    refine tt_cl (by omega) rfl (k_learn (Zi := Zi) (D := D) (s := s) (p := p) (c := (uc c 44 (ua (c 44) ((((s 3039) + (64 * y)) + x)).toNat r4))) (by omega) hS (bC_st hC (show 0 ≤ r4 ∧ r4 ≤ 65535 by omega)) p_ e (by omega) (by omega) (show 1 ≤ (s 3023) ∧ (s 3023) ≤ 511 ∧ 3 ≤ (s 3022) by omega) (show 0 ≤ (c 36) p_.toNat ∧ (c 36) p_.toNat ≤ 300000000 by omega) (show -65536 ≤ (c 37) p_.toNat ∧ (c 37) p_.toNat ≤ 65536 by omega) (show -128 ≤ (c 38) p_.toNat ∧ (c 38) p_.toNat ≤ 127 by omega) (show 1 ≤ (c 39) p_.toNat ∧ (c 39) p_.toNat ≤ 70000 by omega)) ?_
    rintro _ _ ⟨c11, rfl, rfl, hC11, g12, k13, k14, k15, k16, k17, k18, k19, k20⟩
    show tt Zi d 173 (427, [some (.inr (.inl 30)), some (.inl x), some (.inl y), some (.inl p_), some (.inl l4), some (.inl l5), some (.inl e), some (.inl l7), some (.inl l8), some (.inl l9)], [], n, D, s, p, c11) _
    replace k13 : (c11 36) p_.toNat = if (c 39) p_.toNat = (s 3022) then ((c 36) p_.toNat + (if 0 ≤ e then e else -e)) / 2 else (c 36) p_.toNat + (if 0 ≤ e then e else -e) := k13
    replace k14 : (c11 39) p_.toNat = (if (c 39) p_.toNat = (s 3022) then (c 39) p_.toNat / 2 else (c 39) p_.toNat) + 1 := k14
    replace k15 : 1 - (c11 39) p_.toNat ≤ (c11 37) p_.toNat ∧ (c11 37) p_.toNat ≤ 0 := k15
    replace k16 : -128 ≤ (c11 38) p_.toNat ∧ (c11 38) p_.toNat ≤ 127 := k16
    replace k17 : ∀ j, j ≠ p_.toNat → (c11 36) j = (c 36) j := k17
    replace k18 : ∀ j, j ≠ p_.toNat → (c11 37) j = (c 37) j := k18
    replace k19 : ∀ j, j ≠ p_.toNat → (c11 38) j = (c 38) j := k19
    replace k20 : ∀ j, j ≠ p_.toNat → (c11 39) j = (c 39) j := k20
    have hN4 : c11 39 (p_).toNat ≤ 70000 := by rw [k14]; (try split) <;> omega
    have w44 : c11 44 = (ua (c 44) ((((s 3039) + (64 * y)) + x)).toNat r4) := g12 44 (by decide)
    have hTB : tb (s 3037) (s 3039) (s 3017) (c11 44) (x + 1) y := by rw [w44]; exact tb_next hp5 (by omega) (by omega) (by omega) (by omega) (by omega)
    have hE2 : 0 ≤ (if 0 ≤ e then e else -e) ∧ 2 * (if 0 ≤ e then e else -e) ≤ s 3024 + 1 := by have hz := hp6 (by omega); split <;> omega
    exact tt_rtv rfl rfl ⟨c11, rfl, rfl, hC11, (frc_tr (frc_uc (by decide) frc_rf) g12 (by decide)), fun _ => pl_next (s := s) hp0 (by omega) hp3 (i := (p_).toNat) (by omega) rfl (E := (if 0 ≤ e then e else -e)) hE2.1 hE2.2 k13 k14 (by omega) (by omega) k17 k18 k19 k20, fun _ => hTB⟩
  · show tt Zi d 173 (397, [some (.inr (.inl 30)), some (.inl x), some (.inl y), some (.inl p_), some (.inl l4), some (.inl l5), some (.inl e), some (.inl l7), some (.inl l8), some (.inl l9)], [], n, D, s, p, c) _
    exact tt_rtv rfl rfl ⟨c, rfl, rfl, hC, frc_rf, by show s 3050 = 0 → pl s (t + 1) c; intro hz; omega, by show s 3050 = 0 → tb (s 3037) (s 3039) (s 3017) ((c 44)) (x + 1) y; intro hz; omega⟩
set_option maxRecDepth 100000 in
set_option maxHeartbeats 4000000 in
theorem k_regR {Zi : Nat → Option (Nat × (Nat → Int))} {d n : Nat} {D : Nat → Nat × Nat} {s : Nat → Int} {p : Nat → Nat} {c : Nat → Nat → Int} (hd : 5 ≤ d) (hS : bS s) (hC : bC D c) (t : Int) (x : Int) (y : Int) (p_ : Int) (b_x : 0 ≤ x ∧ x ≤ 63) (b_y : 0 ≤ y ∧ y ≤ 63) (b_p_ : 0 ≤ p_ ∧ p_ ≤ 364) (hp0 : mv s) (hp1 : s 3036 = 0 ∧ s 3050 = 0 ∧ x < s 3037) (hp2 : (0 ≤ s 3041 ∧ s 3041 ≤ s 3017) ∧ (0 ≤ s 3042 ∧ s 3042 ≤ s 3017) ∧ (0 ≤ s 3043 ∧ s 3043 ≤ s 3017)) (hp3 : pl s t c) (hp4 : 0 ≤ t ∧ t ≤ 4095) (hp5 : tb (s 3037) (s 3039) (s 3017) (c 44) x y) : tt Zi d 173 (0, [some (.inr (.inl 30)), some (.inl x), some (.inl y), some (.inl p_), none, none, none, none, none, none], [], n, D, s, p, c) (fun R H => ∃ (s' : Nat → Int) (c' : Nat → Nat → Int), R = .inl none ∧ H = (n, D, s', p, c') ∧ bS s' ∧ bC D c' ∧ fr s s' [3045, 3049, 3050, 3051, 3052, 3053, 3054] ∧ frc c c' [36, 37, 38, 39, 44] ∧ (s' 3050 = 0 → pl s' (t + 1) c') ∧ (s' 3050 = 0 → tb (s' 3037) (s' 3039) (s' 3017) (c' 44) (x + 1) y) ∧ (s 3049 ≤ s' 3049) ∧ (s 3049 ≤ 32768 → s' 3049 ≤ 32768)) := by
  have mvx := mv_fx hp0
  have hi := hp3 (p_).toNat (by omega)
  have hb := pl_bd hp0 (by omega) hi
  refine tt_k 7 (S' := (13, [some (.inr (.inl 30)), some (.inl x), some (.inl y), some (.inl p_), none, none, none, none, none, none], [.inl (s 3042), .inl (s 3041), .inl (s 3043), .inr (.inl 30)], n, D, s, p, c)) rfl ?_
  have b1 : 0 ≤ (s 3041) ∧ (s 3041) ≤ 65535 := hS 3041
  have b2 : 0 ≤ (s 3042) ∧ (s 3042) ≤ 65535 := hS 3042
  refine tt_cl (by omega) rfl (k_more (Zi := Zi) (D := D) (s := s) (p := p) (c := c) (by omega) hS hC (s 3041) (s 3042) (by omega) (by omega)) ?_
  rintro _ _ ⟨r3, rfl, rfl, b4, k5⟩
  show tt Zi d 173 (16, [some (.inr (.inl 30)), some (.inl x), some (.inl y), some (.inl p_), none, none, none, none, none, none], [.inl r3, .inl (s 3043), .inr (.inl 30)], n, D, s, p, c) _
  replace k5 : r3 = max (s 3041) (s 3042) := k5
  subst k5
  show tt Zi d 173 (16, [some (.inr (.inl 30)), some (.inl x), some (.inl y), some (.inl p_), none, none, none, none, none, none], [.inl (max (s 3041) (s 3042)), .inl (s 3043), .inr (.inl 30)], n, D, s, p, c) _
  have b6 : 0 ≤ (s 3043) ∧ (s 3043) ≤ 65535 := hS 3043
  have K8 : ∀ (j7 : Int) , (-2147483648 ≤ j7 ∧ j7 ≤ 2147483647) → (True) → tt Zi d 173 (79, [some (.inr (.inl 30)), some (.inl x), some (.inl y), some (.inl p_), none, none, none, none, none, none], [.inl j7, .inr (.inl 30)], n, D, s, p, c) (fun R H => ∃ (s' : Nat → Int) (c' : Nat → Nat → Int), R = .inl none ∧ H = (n, D, s', p, c') ∧ bS s' ∧ bC D c' ∧ fr s s' [3045, 3049, 3050, 3051, 3052, 3053, 3054] ∧ frc c c' [36, 37, 38, 39, 44] ∧ (s' 3050 = 0 → pl s' (t + 1) c') ∧ (s' 3050 = 0 → tb (s' 3037) (s' 3039) (s' 3017) (c' 44) (x + 1) y) ∧ (s 3049 ≤ s' 3049) ∧ (s 3049 ≤ 32768 → s' 3049 ≤ 32768)) := by
    intro j7 b10 hj9
    refine tt_k 7 (S' := (92, [some (.inr (.inl 30)), some (.inl x), some (.inl y), some (.inl p_), none, none, none, none, none, none], [.inl (s 3046), .inl (s 3017), .inl 0, .inr (.inl 30)], n, D, (us s 3045 j7), p, c)) rfl ?_
    have b11 : 0 ≤ (s 3046) ∧ (s 3046) ≤ 1 := hS 3046
    have K13 : ∀ (j12 : Int) , (-4294967296 ≤ j12 ∧ j12 ≤ 4294967295) → (True) → tt Zi d 173 (120, [some (.inr (.inl 30)), some (.inl x), some (.inl y), some (.inl p_), none, none, none, none, none, none], [.inl j12, .inl (s 3017), .inl 0, .inr (.inl 30)], n, D, (us s 3045 j7), p, c) (fun R H => ∃ (s' : Nat → Int) (c' : Nat → Nat → Int), R = .inl none ∧ H = (n, D, s', p, c') ∧ bS s' ∧ bC D c' ∧ fr s s' [3045, 3049, 3050, 3051, 3052, 3053, 3054] ∧ frc c c' [36, 37, 38, 39, 44] ∧ (s' 3050 = 0 → pl s' (t + 1) c') ∧ (s' 3050 = 0 → tb (s' 3037) (s' 3039) (s' 3017) (c' 44) (x + 1) y) ∧ (s 3049 ≤ s' 3049) ∧ (s 3049 ≤ 32768 → s' 3049 ≤ 32768)) := by
      intro j12 b15 hj14
      have b16 : 0 ≤ (s 3017) ∧ (s 3017) ≤ 65535 := hS 3017
      refine tt_cl (by omega) rfl (k_less (Zi := Zi) (D := D) (s := (us s 3045 j7)) (p := p) (c := c) (by omega) (bS_us hS (show -65535 ≤ j7 ∧ j7 ≤ 131070 by omega)) hC (s 3017) j12 (by omega) (by omega)) ?_
      rintro _ _ ⟨r17, rfl, rfl, b18, k19⟩
      show tt Zi d 173 (123, [some (.inr (.inl 30)), some (.inl x), some (.inl y), some (.inl p_), none, none, none, none, none, none], [.inl r17, .inl 0, .inr (.inl 30)], n, D, (us s 3045 j7), p, c) _
      replace k19 : r17 = min (s 3017) j12 := k19
      subst k19
      show tt Zi d 173 (123, [some (.inr (.inl 30)), some (.inl x), some (.inl y), some (.inl p_), none, none, none, none, none, none], [.inl (min (s 3017) j12), .inl 0, .inr (.inl 30)], n, D, (us s 3045 j7), p, c) _
      refine tt_cl (by omega) rfl (k_more (Zi := Zi) (D := D) (s := (us s 3045 j7)) (p := p) (c := c) (by omega) (bS_us hS (show -65535 ≤ j7 ∧ j7 ≤ 131070 by omega)) hC 0 (min (s 3017) j12) (by omega) (by omega)) ?_
      rintro _ _ ⟨r20, rfl, rfl, b21, k22⟩
      show tt Zi d 173 (126, [some (.inr (.inl 30)), some (.inl x), some (.inl y), some (.inl p_), none, none, none, none, none, none], [.inl r20, .inr (.inl 30)], n, D, (us s 3045 j7), p, c) _
      replace k22 : r20 = max 0 (min (s 3017) j12) := k22
      subst k22
      show tt Zi d 173 (126, [some (.inr (.inl 30)), some (.inl x), some (.inl y), some (.inl p_), none, none, none, none, none, none], [.inl ((max 0 (min (s 3017) j12))), .inr (.inl 30)], n, D, (us s 3045 j7), p, c) _
      refine tt_k 5 (S' := (135, [some (.inr (.inl 30)), some (.inl x), some (.inl y), some (.inl p_), none, none, none, none, none, none], [.inl p_, .inr (.inl 36), .inr (.inl 30)], n, D, (us (us s 3045 j7) 3045 ((max 0 (min (s 3017) j12)))), p, c)) rfl ?_
      refine tt_ildv (i := p_) (v := (c 36 (p_).toNat)) rfl rfl (by omega) rfl ?_
      show tt Zi d 173 (136, [some (.inr (.inl 30)), some (.inl x), some (.inl y), some (.inl p_), none, none, none, none, none, none], [.inl (c 36 (p_).toNat), .inr (.inl 30)], n, D, (us (us s 3045 j7) 3045 ((max 0 (min (s 3017) j12)))), p, c) _
      have b23 : -2147483648 ≤ (c 36 (p_).toNat) ∧ (c 36 (p_).toNat) ≤ 2147483647 := hC 36 _
      refine tt_k 3 (S' := (141, [some (.inr (.inl 30)), some (.inl x), some (.inl y), some (.inl p_), none, none, none, none, none, none], [.inl p_, .inr (.inl 39), .inl (c 36 (p_).toNat), .inr (.inl 30)], n, D, (us (us s 3045 j7) 3045 ((max 0 (min (s 3017) j12)))), p, c)) rfl ?_
      refine tt_ildv (i := p_) (v := (c 39 (p_).toNat)) rfl rfl (by omega) rfl ?_
      show tt Zi d 173 (142, [some (.inr (.inl 30)), some (.inl x), some (.inl y), some (.inl p_), none, none, none, none, none, none], [.inl (c 39 (p_).toNat), .inl (c 36 (p_).toNat), .inr (.inl 30)], n, D, (us (us s 3045 j7) 3045 ((max 0 (min (s 3017) j12)))), p, c) _
      have b24 : -2147483648 ≤ (c 39 (p_).toNat) ∧ (c 39 (p_).toNat) ≤ 2147483647 := hC 39 _
      refine tt_cl (by omega) rfl (k_exponent (Zi := Zi) (D := D) (s := (us (us s 3045 j7) 3045 ((max 0 (min (s 3017) j12))))) (p := p) (c := c) (by omega) (bS_us (bS_us hS (show -65535 ≤ j7 ∧ j7 ≤ 131070 by omega)) (show -65535 ≤ (max 0 (min (s 3017) j12)) ∧ (max 0 (min (s 3017) j12)) ≤ 131070 by omega)) hC (c 36 (p_).toNat) (c 39 (p_).toNat) (by omega) (by omega)) ?_
      rintro _ _ ⟨r25, rfl, rfl, b26, k27, k28⟩
      show tt Zi d 173 (145, [some (.inr (.inl 30)), some (.inl x), some (.inl y), some (.inl p_), none, none, none, none, none, none], [.inl r25], n, D, (us (us s 3045 j7) 3045 ((max 0 (min (s 3017) j12)))), p, c) _
      replace k27 : (c 36 (p_).toNat) ≤ (c 39 (p_).toNat) * 2 ^ r25.toNat := k27
      replace k28 : r25 = 0 ∨ (c 39 (p_).toNat) * 2 ^ (r25 - 1).toNat < (c 36 (p_).toNat) := k28
      have hkq := k_le_q (s := s) (t := t) (c := c) (i := (p_).toNat) (S := (c 36 (p_).toNat)) (k := r25) hp0 hi (by omega) (by omega) k28
      have z29 : -2147483648 ≤ j7 ∧ j7 ≤ 2147483647 := by omega
      have z30 : 0 ≤ p_ ∧ p_ ≤ 364 := by omega
      have z31 : 0 ≤ r25 ∧ r25 ≤ 16 := by omega
      have z32 : 0 ≤ x ∧ x ≤ 63 := by omega
      have z33 : 0 ≤ y ∧ y ≤ 63 := by omega
      clear b26 k27 k28 b24 b23 b21 k22 b18 k19 b16 b15 hj14 b11 b10 hj9 b6 b4 k5 b2 b1
      refine tt_k 3 (S' := (151, [some (.inr (.inl 30)), some (.inl x), some (.inl y), some (.inl p_), some (.inl r25), none, none, none, none, none], [.inl (s 3018)], n, D, (us (us s 3045 j7) 3045 ((max 0 (min (s 3017) j12)))), p, c)) rfl ?_
      have b34 : -2147483648 ≤ (s 3018) ∧ (s 3018) ≤ 2147483647 := hS 3018
      have K36 : ∀ (j35 : Int) , (0 ≤ j35 ∧ j35 ≤ 1) → (True) → tt Zi d 173 (182, [some (.inr (.inl 30)), some (.inl x), some (.inl y), some (.inl p_), some (.inl r25), none, none, none, none, none], [.inl j35], n, D, (us (us s 3045 j7) 3045 ((max 0 (min (s 3017) j12)))), p, c) (fun R H => ∃ (s' : Nat → Int) (c' : Nat → Nat → Int), R = .inl none ∧ H = (n, D, s', p, c') ∧ bS s' ∧ bC D c' ∧ fr s s' [3045, 3049, 3050, 3051, 3052, 3053, 3054] ∧ frc c c' [36, 37, 38, 39, 44] ∧ (s' 3050 = 0 → pl s' (t + 1) c') ∧ (s' 3050 = 0 → tb (s' 3037) (s' 3039) (s' 3017) (c' 44) (x + 1) y) ∧ (s 3049 ≤ s' 3049) ∧ (s 3049 ≤ 32768 → s' 3049 ≤ 32768)) := by
        intro j35 b38 hj37
        refine tt_k 5 (S' := (191, [some (.inr (.inl 30)), some (.inl x), some (.inl y), some (.inl p_), some (.inl r25), some (.inl j35), some (.inl 0), none, none, none], [.inl (s 3036)], n, D, (us (us s 3045 j7) 3045 ((max 0 (min (s 3017) j12)))), p, c)) rfl ?_
        have b39 : 0 ≤ (s 3036) ∧ (s 3036) ≤ 1 := hS 3036
        refine tz_eq (x := (s 3036)) rfl rfl (by omega) (fun h40 => ?_) (fun h40 => ?_)
        · show tt Zi d 173 (281, [some (.inr (.inl 30)), some (.inl x), some (.inl y), some (.inl p_), some (.inl r25), some (.inl j35), some (.inl 0), none, none, none], [], n, D, (us (us s 3045 j7) 3045 ((max 0 (min (s 3017) j12)))), p, c) _
          refine tt_k 1 (S' := (282, [some (.inr (.inl 30)), some (.inl x), some (.inl y), some (.inl p_), some (.inl r25), some (.inl j35), some (.inl 0), none, none, none], [.inr (.inl 30)], n, D, (us (us s 3045 j7) 3045 ((max 0 (min (s 3017) j12)))), p, c)) rfl ?_
          refine tt_cl (by omega) rfl (k_ready (Zi := Zi) (D := D) (s := (us (us s 3045 j7) 3045 ((max 0 (min (s 3017) j12))))) (p := p) (c := c) (by omega) (bS_us (bS_us hS (show -65535 ≤ j7 ∧ j7 ≤ 131070 by omega)) (show -65535 ≤ (max 0 (min (s 3017) j12)) ∧ (max 0 (min (s 3017) j12)) ≤ 131070 by omega)) hC ) ?_
          rintro _ _ ⟨s41, rfl, rfl, hS41, f42, k43, k44, k45, k46⟩
          have hc47 : mv s41 := mv_fr f42 (by decide) (mv_us (by decide) (mv_us (by decide) hp0))
          show tt Zi d 173 (285, [some (.inr (.inl 30)), some (.inl x), some (.inl y), some (.inl p_), some (.inl r25), some (.inl j35), some (.inl 0), none, none, none], [], n, D, s41, p, c) _
          replace k43 : (s 3049) ≤ (s41 3049) := k43
          replace k44 : (s41 3050) = 0 → 1 ≤ (s41 3054) := k44
          replace k45 : (s 3050) ≠ 0 → (s41 3050) ≠ 0 := k45
          replace k46 : (s 3049) ≤ 32768 → (s41 3049) ≤ 32768 := k46
          have b48 : 0 ≤ (s 3049) ∧ (s 3049) ≤ 32769 := hS 3049
          have b49 : 0 ≤ (s41 3049) ∧ (s41 3049) ≤ 32769 := hS41 3049
          have b50 : 0 ≤ (s41 3050) ∧ (s41 3050) ≤ 8 := hS41 3050
          have b51 : 0 ≤ (s41 3054) ∧ (s41 3054) ≤ 8 := hS41 3054
          have b52 : 0 ≤ (s 3050) ∧ (s 3050) ≤ 8 := hS 3050
          have e53 : s41 3039 = (s 3039) := (f42 3039 (by decide))
          have b54 : 0 ≤ (s41 3039) ∧ (s41 3039) ≤ 8192 := hS41 3039
          have b55 : 0 ≤ (s 3039) ∧ (s 3039) ≤ 8192 := hS 3039
          have e56 : s41 3017 = (s 3017) := (f42 3017 (by decide))
          have b57 : 0 ≤ (s41 3017) ∧ (s41 3017) ≤ 65535 := hS41 3017
          have b58 : 0 ≤ (s 3017) ∧ (s 3017) ≤ 65535 := hS 3017
          have e59 : s41 3024 = (s 3024) := (f42 3024 (by decide))
          have b60 : -2147483648 ≤ (s41 3024) ∧ (s41 3024) ≤ 2147483647 := hS41 3024
          have b61 : -2147483648 ≤ (s 3024) ∧ (s 3024) ≤ 2147483647 := hS 3024
          have e62 : s41 3025 = (s 3025) := (f42 3025 (by decide))
          have b63 : 0 ≤ (s41 3025) ∧ (s41 3025) ≤ 31 := hS41 3025
          have b64 : 0 ≤ (s 3025) ∧ (s 3025) ≤ 31 := hS 3025
          have e65 : s41 3026 = (s 3026) := (f42 3026 (by decide))
          have b66 : 0 ≤ (s41 3026) ∧ (s41 3026) ≤ 96 := hS41 3026
          have b67 : 0 ≤ (s 3026) ∧ (s 3026) ≤ 96 := hS 3026
          have e68 : s41 3037 = (s 3037) := (f42 3037 (by decide))
          have b69 : 0 ≤ (s41 3037) ∧ (s41 3037) ≤ 64 := hS41 3037
          have b70 : 0 ≤ (s 3037) ∧ (s 3037) ≤ 64 := hS 3037
          have e71 : s41 3045 = (max 0 (min (s 3017) j12)) := (f42 3045 (by decide))
          have b72 : -65535 ≤ (s41 3045) ∧ (s41 3045) ≤ 131070 := hS41 3045
          have e73 : s41 3036 = (s 3036) := (f42 3036 (by decide))
          have b74 : 0 ≤ (s41 3036) ∧ (s41 3036) ≤ 1 := hS41 3036
          refine tt_k 7 (S' := (298, [some (.inr (.inl 30)), some (.inl x), some (.inl y), some (.inl p_), some (.inl r25), some (.inl j35), some (.inl 0), some (.inl (s41 3053)), none, none], [.inl (s41 3026), .inl r25, .inr (.inl 30)], n, D, s41, p, c)) rfl ?_
          refine tt_cl (by omega) rfl (k_number (Zi := Zi) (D := D) (s := s41) (p := p) (c := c) (by omega) hS41 hC r25 (s41 3026) (by omega) (by omega) (show 0 ≤ (s41 3026) - (s41 3025) - 1 ∧ (s41 3026) - (s41 3025) - 1 ≤ 64 ∧ (s41 3025) ≤ 16 by omega)) ?_
          rintro _ _ ⟨s75, r76, rfl, rfl, hS75, f77, b78, k79, k80, k81⟩
          have hc82 : mv s75 := mv_fr f77 (by decide) hc47
          show tt Zi d 173 (301, [some (.inr (.inl 30)), some (.inl x), some (.inl y), some (.inl p_), some (.inl r25), some (.inl j35), some (.inl 0), some (.inl (s41 3053)), none, none], [.inl r76], n, D, s75, p, c) _
          replace k79 : (s41 3049) ≤ (s75 3049) := k79
          replace k80 : (s41 3050) ≠ 0 → (s75 3050) ≠ 0 := k80
          replace k81 : (s41 3049) ≤ 32768 → (s75 3049) ≤ 32768 := k81
          have b83 : 0 ≤ (s75 3049) ∧ (s75 3049) ≤ 32769 := hS75 3049
          have b84 : 0 ≤ (s75 3050) ∧ (s75 3050) ≤ 8 := hS75 3050
          have e85 : s75 3039 = (s41 3039) := (f77 3039 (by decide))
          have b86 : 0 ≤ (s75 3039) ∧ (s75 3039) ≤ 8192 := hS75 3039
          have e87 : s75 3017 = (s41 3017) := (f77 3017 (by decide))
          have b88 : 0 ≤ (s75 3017) ∧ (s75 3017) ≤ 65535 := hS75 3017
          have e89 : s75 3024 = (s41 3024) := (f77 3024 (by decide))
          have b90 : -2147483648 ≤ (s75 3024) ∧ (s75 3024) ≤ 2147483647 := hS75 3024
          have e91 : s75 3025 = (s41 3025) := (f77 3025 (by decide))
          have b92 : 0 ≤ (s75 3025) ∧ (s75 3025) ≤ 31 := hS75 3025
          have e93 : s75 3026 = (s41 3026) := (f77 3026 (by decide))
          have b94 : 0 ≤ (s75 3026) ∧ (s75 3026) ≤ 96 := hS75 3026
          have e95 : s75 3037 = (s41 3037) := (f77 3037 (by decide))
          have b96 : 0 ≤ (s75 3037) ∧ (s75 3037) ≤ 64 := hS75 3037
          have e97 : s75 3045 = (s41 3045) := (f77 3045 (by decide))
          have b98 : -65535 ≤ (s75 3045) ∧ (s75 3045) ≤ 131070 := hS75 3045
          have e99 : s75 3036 = (s41 3036) := (f77 3036 (by decide))
          have b100 : 0 ≤ (s75 3036) ∧ (s75 3036) ≤ 1 := hS75 3036
          refine tt_k 3 (S' := (306, [some (.inr (.inl 30)), some (.inl x), some (.inl y), some (.inl p_), some (.inl r25), some (.inl j35), some (.inl 0), some (.inl (s41 3053)), some (.inl r76), none], [.inl 2, .inl r76], n, D, s75, p, c)) rfl ?_
          refine tt_rmp (x := r76) (y := 2) rfl (by omega) ?_
          show tt Zi d 173 (307, [some (.inr (.inl 30)), some (.inl x), some (.inl y), some (.inl p_), some (.inl r25), some (.inl j35), some (.inl 0), some (.inl (s41 3053)), some (.inl r76), none], [.inl (r76 % 2)], n, D, s75, p, c) _
          refine tt_k 1 (S' := (308, [some (.inr (.inl 30)), some (.inl x), some (.inl y), some (.inl p_), some (.inl r25), some (.inl j35), some (.inl 0), some (.inl (s41 3053)), some (.inl r76), none], [.inl 1, .inl (r76 % 2)], n, D, s75, p, c)) rfl ?_
          have K102 : ∀ (j101 : Int) , (0 ≤ j101 ∧ j101 ≤ 1) → (True) → tt Zi d 173 (316, [some (.inr (.inl 30)), some (.inl x), some (.inl y), some (.inl p_), some (.inl r25), some (.inl j35), some (.inl 0), some (.inl (s41 3053)), some (.inl r76), none], [.inl j101], n, D, s75, p, c) (fun R H => ∃ (s' : Nat → Int) (c' : Nat → Nat → Int), R = .inl none ∧ H = (n, D, s', p, c') ∧ bS s' ∧ bC D c' ∧ fr s s' [3045, 3049, 3050, 3051, 3052, 3053, 3054] ∧ frc c c' [36, 37, 38, 39, 44] ∧ (s' 3050 = 0 → pl s' (t + 1) c') ∧ (s' 3050 = 0 → tb (s' 3037) (s' 3039) (s' 3017) (c' 44) (x + 1) y) ∧ (s 3049 ≤ s' 3049) ∧ (s 3049 ≤ 32768 → s' 3049 ≤ 32768)) := by
            intro j101 b104 hj103
            refine tt_k 2 (S' := (320, [some (.inr (.inl 30)), some (.inl x), some (.inl y), some (.inl p_), some (.inl r25), some (.inl j35), some (.inl 0), some (.inl (s41 3053)), some (.inl r76), some (.inl j101)], [.inl j35], n, D, s75, p, c)) rfl ?_
            have K106 : ∀ (j105 : Int) , (-1073741824 ≤ j105 ∧ j105 ≤ 1073741824) → (True) → tt Zi d 173 (364, [some (.inr (.inl 30)), some (.inl x), some (.inl y), some (.inl p_), some (.inl r25), some (.inl j35), some (.inl 0), some (.inl (s41 3053)), some (.inl r76), some (.inl j101)], [.inl j105], n, D, s75, p, c) (fun R H => ∃ (s' : Nat → Int) (c' : Nat → Nat → Int), R = .inl none ∧ H = (n, D, s', p, c') ∧ bS s' ∧ bC D c' ∧ fr s s' [3045, 3049, 3050, 3051, 3052, 3053, 3054] ∧ frc c c' [36, 37, 38, 39, 44] ∧ (s' 3050 = 0 → pl s' (t + 1) c') ∧ (s' 3050 = 0 → tb (s' 3037) (s' 3039) (s' 3017) (c' 44) (x + 1) y) ∧ (s 3049 ≤ s' 3049) ∧ (s 3049 ≤ 32768 → s' 3049 ≤ 32768)) := by
              intro j105 b108 hj107
              refine tt_k 3 (S' := (370, [some (.inr (.inl 30)), some (.inl x), some (.inl y), some (.inl p_), some (.inl r25), some (.inl j35), some (.inl j105), some (.inl (s41 3053)), some (.inl r76), some (.inl j101)], [.inl (s75 3050)], n, D, s75, p, c)) rfl ?_
              refine tz_ne (x := (s75 3050)) rfl rfl (by omega) (fun h109 => ?_) (fun h109 => ?_)
              · show tt Zi d 173 (390, [some (.inr (.inl 30)), some (.inl x), some (.inl y), some (.inl p_), some (.inl r25), some (.inl j35), some (.inl j105), some (.inl (s41 3053)), some (.inl r76), some (.inl j101)], [], n, D, s75, p, c) _
                have aW : (s75 3037) = s 3037 := ((f77 3037 (by decide)).trans (f42 3037 (by decide)))
                have aB : (s75 3039) = s 3039 := ((f77 3039 (by decide)).trans (f42 3039 (by decide)))
                have aM : (s75 3017) = s 3017 := ((f77 3017 (by decide)).trans (f42 3017 (by decide)))
                have aQ : (s75 3025) = s 3025 := ((f77 3025 (by decide)).trans (f42 3025 (by decide)))
                have aT : (s75 3036) = s 3036 := ((f77 3036 (by decide)).trans (f42 3036 (by decide)))
                have b110 : 0 ≤ (s41 3053) ∧ (s41 3053) ≤ 32768 := hS41 3053
                refine tt_mono (k_regR2 (Zi := Zi) (D := D) (s := s75) (p := p) (c := c) (by omega) hS75 hC t x y p_ r25 j35 j105 (s41 3053) r76 j101 (by omega) (by omega) (by omega) (by omega) hc82 (show (s75 3036) = 0 ∧ x < (s75 3037) by omega) (show 0 ≤ (s75 3045) ∧ (s75 3045) ≤ (s75 3017) by omega) (pl_eq aQ rfl rfl rfl rfl hp3) (show 0 ≤ t ∧ t ≤ 4095 by omega) (by rw [aW, aB, aM]; exact hp5) (show (s75 3050) = 0 → -((s75 3024) / 2) ≤ j105 ∧ j105 ≤ ((s75 3024) - 1) / 2 by omega)) ?_
                rintro _ _ ⟨c111, rfl, rfl, hC111, g112, k113, k114⟩
                exact ⟨s75, c111, rfl, rfl, hS75, hC111, (fr_tr (fr_tr (fr_us (by decide) (fr_us (by decide) fr_rf)) f42 (by decide)) f77 (by decide)), (frc_tr frc_rf g112 (by decide)), k113, k114, by show s 3049 ≤ (s75 3049); omega, by show s 3049 ≤ 32768 → (s75 3049) ≤ 32768; omega⟩
              · show tt Zi d 173 (373, [some (.inr (.inl 30)), some (.inl x), some (.inl y), some (.inl p_), some (.inl r25), some (.inl j35), some (.inl j105), some (.inl (s41 3053)), some (.inl r76), some (.inl j101)], [], n, D, s75, p, c) _
                refine tt_k 2 (S' := (376, [some (.inr (.inl 30)), some (.inl x), some (.inl y), some (.inl p_), some (.inl r25), some (.inl j35), some (.inl j105), some (.inl (s41 3053)), some (.inl r76), some (.inl j101)], [.inl j105, .inr (.inl 30)], n, D, s75, p, c)) rfl ?_
                refine tt_cl (by omega) rfl (k_isError (Zi := Zi) (D := D) (s := s75) (p := p) (c := c) (by omega) hS75 hC j105 (by omega) (show 1 ≤ (s75 3024) ∧ (s75 3024) ≤ 65536 by omega)) ?_
                rintro _ _ ⟨r115, rfl, rfl, b116, k117⟩
                show tt Zi d 173 (379, [some (.inr (.inl 30)), some (.inl x), some (.inl y), some (.inl p_), some (.inl r25), some (.inl j35), some (.inl j105), some (.inl (s41 3053)), some (.inl r76), some (.inl j101)], [.inl r115], n, D, s75, p, c) _
                replace k117 : (r115 = 1 ∧ -((s75 3024) / 2) ≤ j105 ∧ j105 ≤ ((s75 3024) - 1) / 2) ∨ (r115 = 0 ∧ ¬ (-((s75 3024) / 2) ≤ j105 ∧ j105 ≤ ((s75 3024) - 1) / 2)) := k117
                refine tz_ne (x := r115) rfl rfl (by omega) (fun h118 => ?_) (fun h118 => ?_)
                · show tt Zi d 173 (390, [some (.inr (.inl 30)), some (.inl x), some (.inl y), some (.inl p_), some (.inl r25), some (.inl j35), some (.inl j105), some (.inl (s41 3053)), some (.inl r76), some (.inl j101)], [], n, D, s75, p, c) _
                  have aW : (s75 3037) = s 3037 := ((f77 3037 (by decide)).trans (f42 3037 (by decide)))
                  have aB : (s75 3039) = s 3039 := ((f77 3039 (by decide)).trans (f42 3039 (by decide)))
                  have aM : (s75 3017) = s 3017 := ((f77 3017 (by decide)).trans (f42 3017 (by decide)))
                  have aQ : (s75 3025) = s 3025 := ((f77 3025 (by decide)).trans (f42 3025 (by decide)))
                  have aT : (s75 3036) = s 3036 := ((f77 3036 (by decide)).trans (f42 3036 (by decide)))
                  have b119 : 0 ≤ (s41 3053) ∧ (s41 3053) ≤ 32768 := hS41 3053
                  refine tt_mono (k_regR2 (Zi := Zi) (D := D) (s := s75) (p := p) (c := c) (by omega) hS75 hC t x y p_ r25 j35 j105 (s41 3053) r76 j101 (by omega) (by omega) (by omega) (by omega) hc82 (show (s75 3036) = 0 ∧ x < (s75 3037) by omega) (show 0 ≤ (s75 3045) ∧ (s75 3045) ≤ (s75 3017) by omega) (pl_eq aQ rfl rfl rfl rfl hp3) (show 0 ≤ t ∧ t ≤ 4095 by omega) (by rw [aW, aB, aM]; exact hp5) (show (s75 3050) = 0 → -((s75 3024) / 2) ≤ j105 ∧ j105 ≤ ((s75 3024) - 1) / 2 by omega)) ?_
                  rintro _ _ ⟨c120, rfl, rfl, hC120, g121, k122, k123⟩
                  exact ⟨s75, c120, rfl, rfl, hS75, hC120, (fr_tr (fr_tr (fr_us (by decide) (fr_us (by decide) fr_rf)) f42 (by decide)) f77 (by decide)), (frc_tr frc_rf g121 (by decide)), k122, k123, by show s 3049 ≤ (s75 3049); omega, by show s 3049 ≤ 32768 → (s75 3049) ≤ 32768; omega⟩
                · show tt Zi d 173 (382, [some (.inr (.inl 30)), some (.inl x), some (.inl y), some (.inl p_), some (.inl r25), some (.inl j35), some (.inl j105), some (.inl (s41 3053)), some (.inl r76), some (.inl j101)], [], n, D, s75, p, c) _
                  refine tt_k 3 (S' := (387, [some (.inr (.inl 30)), some (.inl x), some (.inl y), some (.inl p_), some (.inl r25), some (.inl j35), some (.inl j105), some (.inl (s41 3053)), some (.inl r76), some (.inl j101)], [.inl (s41 3053), .inl 7, .inr (.inl 30)], n, D, s75, p, c)) rfl ?_
                  have b124 : 0 ≤ (s41 3053) ∧ (s41 3053) ≤ 32768 := hS41 3053
                  refine tt_cl (by omega) rfl (k_fail (Zi := Zi) (D := D) (s := s75) (p := p) (c := c) (by omega) hS75 hC 7 (s41 3053) (by omega) (by omega)) ?_
                  rintro _ _ ⟨s125, rfl, rfl, hS125, f126, k127, k128⟩
                  have hc129 : mv s125 := mv_fr f126 (by decide) hc82
                  show tt Zi d 173 (390, [some (.inr (.inl 30)), some (.inl x), some (.inl y), some (.inl p_), some (.inl r25), some (.inl j35), some (.inl j105), some (.inl (s41 3053)), some (.inl r76), some (.inl j101)], [], n, D, s125, p, c) _
                  replace k127 : ((s75 3050) = 0 → (s125 3050) = 7 ∧ (s125 3051) = (s41 3053)) := k127
                  replace k128 : ((s75 3050) ≠ 0 → (s125 3050) = (s75 3050) ∧ (s125 3051) = (s75 3051)) := k128
                  have b130 : 0 ≤ (s125 3050) ∧ (s125 3050) ≤ 8 := hS125 3050
                  have b131 : -1 ≤ (s125 3051) ∧ (s125 3051) ≤ 32769 := hS125 3051
                  have b132 : -1 ≤ (s75 3051) ∧ (s75 3051) ≤ 32769 := hS75 3051
                  have e133 : s125 3039 = (s75 3039) := (f126 3039 (by decide))
                  have b134 : 0 ≤ (s125 3039) ∧ (s125 3039) ≤ 8192 := hS125 3039
                  have e135 : s125 3017 = (s75 3017) := (f126 3017 (by decide))
                  have b136 : 0 ≤ (s125 3017) ∧ (s125 3017) ≤ 65535 := hS125 3017
                  have e137 : s125 3024 = (s75 3024) := (f126 3024 (by decide))
                  have b138 : -2147483648 ≤ (s125 3024) ∧ (s125 3024) ≤ 2147483647 := hS125 3024
                  have e139 : s125 3025 = (s75 3025) := (f126 3025 (by decide))
                  have b140 : 0 ≤ (s125 3025) ∧ (s125 3025) ≤ 31 := hS125 3025
                  have e141 : s125 3026 = (s75 3026) := (f126 3026 (by decide))
                  have b142 : 0 ≤ (s125 3026) ∧ (s125 3026) ≤ 96 := hS125 3026
                  have e143 : s125 3037 = (s75 3037) := (f126 3037 (by decide))
                  have b144 : 0 ≤ (s125 3037) ∧ (s125 3037) ≤ 64 := hS125 3037
                  have e145 : s125 3045 = (s75 3045) := (f126 3045 (by decide))
                  have b146 : -65535 ≤ (s125 3045) ∧ (s125 3045) ≤ 131070 := hS125 3045
                  have e147 : s125 3049 = (s75 3049) := (f126 3049 (by decide))
                  have b148 : 0 ≤ (s125 3049) ∧ (s125 3049) ≤ 32769 := hS125 3049
                  have e149 : s125 3036 = (s75 3036) := (f126 3036 (by decide))
                  have b150 : 0 ≤ (s125 3036) ∧ (s125 3036) ≤ 1 := hS125 3036
                  have aW : (s125 3037) = s 3037 := ((f126 3037 (by decide)).trans ((f77 3037 (by decide)).trans (f42 3037 (by decide))))
                  have aB : (s125 3039) = s 3039 := ((f126 3039 (by decide)).trans ((f77 3039 (by decide)).trans (f42 3039 (by decide))))
                  have aM : (s125 3017) = s 3017 := ((f126 3017 (by decide)).trans ((f77 3017 (by decide)).trans (f42 3017 (by decide))))
                  have aQ : (s125 3025) = s 3025 := ((f126 3025 (by decide)).trans ((f77 3025 (by decide)).trans (f42 3025 (by decide))))
                  have aT : (s125 3036) = s 3036 := ((f126 3036 (by decide)).trans ((f77 3036 (by decide)).trans (f42 3036 (by decide))))
                  refine tt_mono (k_regR2 (Zi := Zi) (D := D) (s := s125) (p := p) (c := c) (by omega) hS125 hC t x y p_ r25 j35 j105 (s41 3053) r76 j101 (by omega) (by omega) (by omega) (by omega) hc129 (show (s125 3036) = 0 ∧ x < (s125 3037) by omega) (show 0 ≤ (s125 3045) ∧ (s125 3045) ≤ (s125 3017) by omega) (pl_eq aQ rfl rfl rfl rfl hp3) (show 0 ≤ t ∧ t ≤ 4095 by omega) (by rw [aW, aB, aM]; exact hp5) (show (s125 3050) = 0 → -((s125 3024) / 2) ≤ j105 ∧ j105 ≤ ((s125 3024) - 1) / 2 by omega)) ?_
                  rintro _ _ ⟨c151, rfl, rfl, hC151, g152, k153, k154⟩
                  exact ⟨s125, c151, rfl, rfl, hS125, hC151, (fr_tr (fr_tr (fr_tr (fr_us (by decide) (fr_us (by decide) fr_rf)) f42 (by decide)) f77 (by decide)) f126 (by decide)), (frc_tr frc_rf g152 (by decide)), k153, k154, by show s 3049 ≤ (s125 3049); omega, by show s 3049 ≤ 32768 → (s125 3049) ≤ 32768; omega⟩
            refine tz_eq (x := j35) rfl rfl (by omega) (fun h155 => ?_) (fun h155 => ?_)
            · show tt Zi d 173 (345, [some (.inr (.inl 30)), some (.inl x), some (.inl y), some (.inl p_), some (.inl r25), some (.inl j35), some (.inl 0), some (.inl (s41 3053)), some (.inl r76), some (.inl j101)], [], n, D, s75, p, c) _
              refine tt_k 1 (S' := (347, [some (.inr (.inl 30)), some (.inl x), some (.inl y), some (.inl p_), some (.inl r25), some (.inl j35), some (.inl 0), some (.inl (s41 3053)), some (.inl r76), some (.inl j101)], [.inl j101], n, D, s75, p, c)) rfl ?_
              refine tz_eq (x := j101) rfl rfl (by omega) (fun h156 => ?_) (fun h156 => ?_)
              · show tt Zi d 173 (360, [some (.inr (.inl 30)), some (.inl x), some (.inl y), some (.inl p_), some (.inl r25), some (.inl j35), some (.inl 0), some (.inl (s41 3053)), some (.inl r76), some (.inl j101)], [], n, D, s75, p, c) _
                refine tt_k 2 (S' := (363, [some (.inr (.inl 30)), some (.inl x), some (.inl y), some (.inl p_), some (.inl r25), some (.inl j35), some (.inl 0), some (.inl (s41 3053)), some (.inl r76), some (.inl j101)], [.inl 2, .inl r76], n, D, s75, p, c)) rfl ?_
                refine tt_dvp (x := r76) (y := 2) rfl (by omega) ?_
                show tt Zi d 173 (364, [some (.inr (.inl 30)), some (.inl x), some (.inl y), some (.inl p_), some (.inl r25), some (.inl j35), some (.inl 0), some (.inl (s41 3053)), some (.inl r76), some (.inl j101)], [.inl (r76 / 2)], n, D, s75, p, c) _
                exact K106 (r76 / 2)  (by omega) (trivial)
              · show tt Zi d 173 (350, [some (.inr (.inl 30)), some (.inl x), some (.inl y), some (.inl p_), some (.inl r25), some (.inl j35), some (.inl 0), some (.inl (s41 3053)), some (.inl r76), some (.inl j101)], [], n, D, s75, p, c) _
                refine tt_k 5 (S' := (356, [some (.inr (.inl 30)), some (.inl x), some (.inl y), some (.inl p_), some (.inl r25), some (.inl j35), some (.inl 0), some (.inl (s41 3053)), some (.inl r76), some (.inl j101)], [.inl 2, .inl (-(r76 + 1))], n, D, s75, p, c)) rfl ?_
                refine tt_div (x := (-(r76 + 1))) (y := 2) rfl (by omega) ?_
                show tt Zi d 173 (357, [some (.inr (.inl 30)), some (.inl x), some (.inl y), some (.inl p_), some (.inl r25), some (.inl j35), some (.inl 0), some (.inl (s41 3053)), some (.inl r76), some (.inl j101)], [.inl ((Int.tdiv (-(r76 + 1)) 2))], n, D, s75, p, c) _
                have b157 := tdv_bd (x := (-(r76 + 1))) (y := 2) (a := 1073741824) (by omega) (by omega) (by omega)
                refine tt_k 1 (S' := (364, [some (.inr (.inl 30)), some (.inl x), some (.inl y), some (.inl p_), some (.inl r25), some (.inl j35), some (.inl 0), some (.inl (s41 3053)), some (.inl r76), some (.inl j101)], [.inl ((Int.tdiv (-(r76 + 1)) 2))], n, D, s75, p, c)) rfl ?_
                exact K106 ((Int.tdiv (-(r76 + 1)) 2))  (by omega) (trivial)
            · show tt Zi d 173 (323, [some (.inr (.inl 30)), some (.inl x), some (.inl y), some (.inl p_), some (.inl r25), some (.inl j35), some (.inl 0), some (.inl (s41 3053)), some (.inl r76), some (.inl j101)], [], n, D, s75, p, c) _
              refine tt_k 1 (S' := (325, [some (.inr (.inl 30)), some (.inl x), some (.inl y), some (.inl p_), some (.inl r25), some (.inl j35), some (.inl 0), some (.inl (s41 3053)), some (.inl r76), some (.inl j101)], [.inl j101], n, D, s75, p, c)) rfl ?_
              refine tz_eq (x := j101) rfl rfl (by omega) (fun h158 => ?_) (fun h158 => ?_)
              · show tt Zi d 173 (335, [some (.inr (.inl 30)), some (.inl x), some (.inl y), some (.inl p_), some (.inl r25), some (.inl j35), some (.inl 0), some (.inl (s41 3053)), some (.inl r76), some (.inl j101)], [], n, D, s75, p, c) _
                refine tt_k 2 (S' := (338, [some (.inr (.inl 30)), some (.inl x), some (.inl y), some (.inl p_), some (.inl r25), some (.inl j35), some (.inl 0), some (.inl (s41 3053)), some (.inl r76), some (.inl j101)], [.inl 2, .inl r76], n, D, s75, p, c)) rfl ?_
                refine tt_dvp (x := r76) (y := 2) rfl (by omega) ?_
                show tt Zi d 173 (339, [some (.inr (.inl 30)), some (.inl x), some (.inl y), some (.inl p_), some (.inl r25), some (.inl j35), some (.inl 0), some (.inl (s41 3053)), some (.inl r76), some (.inl j101)], [.inl (r76 / 2)], n, D, s75, p, c) _
                refine tt_k 4 (S' := (364, [some (.inr (.inl 30)), some (.inl x), some (.inl y), some (.inl p_), some (.inl r25), some (.inl j35), some (.inl 0), some (.inl (s41 3053)), some (.inl r76), some (.inl j101)], [.inl (((-(r76 / 2)) - 1))], n, D, s75, p, c)) rfl ?_
                exact K106 (((-(r76 / 2)) - 1))  (by omega) (trivial)
              · show tt Zi d 173 (328, [some (.inr (.inl 30)), some (.inl x), some (.inl y), some (.inl p_), some (.inl r25), some (.inl j35), some (.inl 0), some (.inl (s41 3053)), some (.inl r76), some (.inl j101)], [], n, D, s75, p, c) _
                refine tt_k 2 (S' := (331, [some (.inr (.inl 30)), some (.inl x), some (.inl y), some (.inl p_), some (.inl r25), some (.inl j35), some (.inl 0), some (.inl (s41 3053)), some (.inl r76), some (.inl j101)], [.inl 2, .inl r76], n, D, s75, p, c)) rfl ?_
                refine tt_dvp (x := r76) (y := 2) rfl (by omega) ?_
                show tt Zi d 173 (332, [some (.inr (.inl 30)), some (.inl x), some (.inl y), some (.inl p_), some (.inl r25), some (.inl j35), some (.inl 0), some (.inl (s41 3053)), some (.inl r76), some (.inl j101)], [.inl (r76 / 2)], n, D, s75, p, c) _
                refine tt_k 1 (S' := (364, [some (.inr (.inl 30)), some (.inl x), some (.inl y), some (.inl p_), some (.inl r25), some (.inl j35), some (.inl 0), some (.inl (s41 3053)), some (.inl r76), some (.inl j101)], [.inl (r76 / 2)], n, D, s75, p, c)) rfl ?_
                exact K106 (r76 / 2)  (by omega) (trivial)
          refine tb_ne (x := (r76 % 2)) (y := 1) rfl rfl (by omega) (fun h159 => ?_) (fun h159 => ?_)
          · show tt Zi d 173 (315, [some (.inr (.inl 30)), some (.inl x), some (.inl y), some (.inl p_), some (.inl r25), some (.inl j35), some (.inl 0), some (.inl (s41 3053)), some (.inl r76), none], [], n, D, s75, p, c) _
            refine tt_k 1 (S' := (316, [some (.inr (.inl 30)), some (.inl x), some (.inl y), some (.inl p_), some (.inl r25), some (.inl j35), some (.inl 0), some (.inl (s41 3053)), some (.inl r76), none], [.inl 0], n, D, s75, p, c)) rfl ?_
            exact K102 0  (by omega) (trivial)
          · show tt Zi d 173 (311, [some (.inr (.inl 30)), some (.inl x), some (.inl y), some (.inl p_), some (.inl r25), some (.inl j35), some (.inl 0), some (.inl (s41 3053)), some (.inl r76), none], [], n, D, s75, p, c) _
            refine tt_k 2 (S' := (316, [some (.inr (.inl 30)), some (.inl x), some (.inl y), some (.inl p_), some (.inl r25), some (.inl j35), some (.inl 0), some (.inl (s41 3053)), some (.inl r76), none], [.inl 1], n, D, s75, p, c)) rfl ?_
            exact K102 1  (by omega) (trivial)
        · exfalso; omega
      refine tz_ne (x := (s 3018)) rfl rfl (by omega) (fun h160 => ?_) (fun h160 => ?_)
      · show tt Zi d 173 (181, [some (.inr (.inl 30)), some (.inl x), some (.inl y), some (.inl p_), some (.inl r25), none, none, none, none, none], [], n, D, (us (us s 3045 j7) 3045 ((max 0 (min (s 3017) j12)))), p, c) _
        refine tt_k 1 (S' := (182, [some (.inr (.inl 30)), some (.inl x), some (.inl y), some (.inl p_), some (.inl r25), none, none, none, none, none], [.inl 0], n, D, (us (us s 3045 j7) 3045 ((max 0 (min (s 3017) j12)))), p, c)) rfl ?_
        exact K36 0  (by omega) (trivial)
      · show tt Zi d 173 (154, [some (.inr (.inl 30)), some (.inl x), some (.inl y), some (.inl p_), some (.inl r25), none, none, none, none, none], [], n, D, (us (us s 3045 j7) 3045 ((max 0 (min (s 3017) j12)))), p, c) _
        refine tt_k 1 (S' := (156, [some (.inr (.inl 30)), some (.inl x), some (.inl y), some (.inl p_), some (.inl r25), none, none, none, none, none], [.inl r25], n, D, (us (us s 3045 j7) 3045 ((max 0 (min (s 3017) j12)))), p, c)) rfl ?_
        refine tz_ne (x := r25) rfl rfl (by omega) (fun h161 => ?_) (fun h161 => ?_)
        · show tt Zi d 173 (181, [some (.inr (.inl 30)), some (.inl x), some (.inl y), some (.inl p_), some (.inl r25), none, none, none, none, none], [], n, D, (us (us s 3045 j7) 3045 ((max 0 (min (s 3017) j12)))), p, c) _
          refine tt_k 1 (S' := (182, [some (.inr (.inl 30)), some (.inl x), some (.inl y), some (.inl p_), some (.inl r25), none, none, none, none, none], [.inl 0], n, D, (us (us s 3045 j7) 3045 ((max 0 (min (s 3017) j12)))), p, c)) rfl ?_
          exact K36 0  (by omega) (trivial)
        · show tt Zi d 173 (159, [some (.inr (.inl 30)), some (.inl x), some (.inl y), some (.inl p_), some (.inl r25), none, none, none, none, none], [], n, D, (us (us s 3045 j7) 3045 ((max 0 (min (s 3017) j12)))), p, c) _
          refine tt_k 4 (S' := (165, [some (.inr (.inl 30)), some (.inl x), some (.inl y), some (.inl p_), some (.inl r25), none, none, none, none, none], [.inl p_, .inr (.inl 37), .inl 2], n, D, (us (us s 3045 j7) 3045 ((max 0 (min (s 3017) j12)))), p, c)) rfl ?_
          refine tt_ildv (i := p_) (v := (c 37 (p_).toNat)) rfl rfl (by omega) rfl ?_
          show tt Zi d 173 (166, [some (.inr (.inl 30)), some (.inl x), some (.inl y), some (.inl p_), some (.inl r25), none, none, none, none, none], [.inl (c 37 (p_).toNat), .inl 2], n, D, (us (us s 3045 j7) 3045 ((max 0 (min (s 3017) j12)))), p, c) _
          have b162 : -2147483648 ≤ (c 37 (p_).toNat) ∧ (c 37 (p_).toNat) ≤ 2147483647 := hC 37 _
          refine tt_k 4 (S' := (172, [some (.inr (.inl 30)), some (.inl x), some (.inl y), some (.inl p_), some (.inl r25), none, none, none, none, none], [.inl p_, .inr (.inl 39), .inl ((2 * (c 37 (p_).toNat)))], n, D, (us (us s 3045 j7) 3045 ((max 0 (min (s 3017) j12)))), p, c)) rfl ?_
          refine tt_ildv (i := p_) (v := (c 39 (p_).toNat)) rfl rfl (by omega) rfl ?_
          show tt Zi d 173 (173, [some (.inr (.inl 30)), some (.inl x), some (.inl y), some (.inl p_), some (.inl r25), none, none, none, none, none], [.inl (c 39 (p_).toNat), .inl ((2 * (c 37 (p_).toNat)))], n, D, (us (us s 3045 j7) 3045 ((max 0 (min (s 3017) j12)))), p, c) _
          have b163 : -2147483648 ≤ (c 39 (p_).toNat) ∧ (c 39 (p_).toNat) ≤ 2147483647 := hC 39 _
          refine tt_k 1 (S' := (174, [some (.inr (.inl 30)), some (.inl x), some (.inl y), some (.inl p_), some (.inl r25), none, none, none, none, none], [.inl ((-(c 39 (p_).toNat))), .inl ((2 * (c 37 (p_).toNat)))], n, D, (us (us s 3045 j7) 3045 ((max 0 (min (s 3017) j12)))), p, c)) rfl ?_
          refine tb_gt (x := (2 * (c 37 (p_).toNat))) (y := (-(c 39 (p_).toNat))) rfl rfl (by omega) (fun h164 => ?_) (fun h164 => ?_)
          · show tt Zi d 173 (181, [some (.inr (.inl 30)), some (.inl x), some (.inl y), some (.inl p_), some (.inl r25), none, none, none, none, none], [], n, D, (us (us s 3045 j7) 3045 ((max 0 (min (s 3017) j12)))), p, c) _
            refine tt_k 1 (S' := (182, [some (.inr (.inl 30)), some (.inl x), some (.inl y), some (.inl p_), some (.inl r25), none, none, none, none, none], [.inl 0], n, D, (us (us s 3045 j7) 3045 ((max 0 (min (s 3017) j12)))), p, c)) rfl ?_
            exact K36 0  (by omega) (trivial)
          · show tt Zi d 173 (177, [some (.inr (.inl 30)), some (.inl x), some (.inl y), some (.inl p_), some (.inl r25), none, none, none, none, none], [], n, D, (us (us s 3045 j7) 3045 ((max 0 (min (s 3017) j12)))), p, c) _
            refine tt_k 2 (S' := (182, [some (.inr (.inl 30)), some (.inl x), some (.inl y), some (.inl p_), some (.inl r25), none, none, none, none, none], [.inl 1], n, D, (us (us s 3045 j7) 3045 ((max 0 (min (s 3017) j12)))), p, c)) rfl ?_
            exact K36 1  (by omega) (trivial)
    refine tz_eq (x := (s 3046)) rfl rfl (by omega) (fun h165 => ?_) (fun h165 => ?_)
    · show tt Zi d 173 (109, [some (.inr (.inl 30)), some (.inl x), some (.inl y), some (.inl p_), none, none, none, none, none, none], [.inl (s 3017), .inl 0, .inr (.inl 30)], n, D, (us s 3045 j7), p, c) _
      refine tt_k 5 (S' := (118, [some (.inr (.inl 30)), some (.inl x), some (.inl y), some (.inl p_), none, none, none, none, none, none], [.inl p_, .inr (.inl 38), .inl j7, .inl (s 3017), .inl 0, .inr (.inl 30)], n, D, (us s 3045 j7), p, c)) rfl ?_
      refine tt_ildv (i := p_) (v := (c 38 (p_).toNat)) rfl rfl (by omega) rfl ?_
      show tt Zi d 173 (119, [some (.inr (.inl 30)), some (.inl x), some (.inl y), some (.inl p_), none, none, none, none, none, none], [.inl (c 38 (p_).toNat), .inl j7, .inl (s 3017), .inl 0, .inr (.inl 30)], n, D, (us s 3045 j7), p, c) _
      have b166 : -2147483648 ≤ (c 38 (p_).toNat) ∧ (c 38 (p_).toNat) ≤ 2147483647 := hC 38 _
      refine tt_k 1 (S' := (120, [some (.inr (.inl 30)), some (.inl x), some (.inl y), some (.inl p_), none, none, none, none, none, none], [.inl ((j7 + (c 38 (p_).toNat))), .inl (s 3017), .inl 0, .inr (.inl 30)], n, D, (us s 3045 j7), p, c)) rfl ?_
      exact K13 ((j7 + (c 38 (p_).toNat)))  (by omega) (trivial)
    · show tt Zi d 173 (95, [some (.inr (.inl 30)), some (.inl x), some (.inl y), some (.inl p_), none, none, none, none, none, none], [.inl (s 3017), .inl 0, .inr (.inl 30)], n, D, (us s 3045 j7), p, c) _
      refine tt_k 5 (S' := (104, [some (.inr (.inl 30)), some (.inl x), some (.inl y), some (.inl p_), none, none, none, none, none, none], [.inl p_, .inr (.inl 38), .inl j7, .inl (s 3017), .inl 0, .inr (.inl 30)], n, D, (us s 3045 j7), p, c)) rfl ?_
      refine tt_ildv (i := p_) (v := (c 38 (p_).toNat)) rfl rfl (by omega) rfl ?_
      show tt Zi d 173 (105, [some (.inr (.inl 30)), some (.inl x), some (.inl y), some (.inl p_), none, none, none, none, none, none], [.inl (c 38 (p_).toNat), .inl j7, .inl (s 3017), .inl 0, .inr (.inl 30)], n, D, (us s 3045 j7), p, c) _
      have b167 : -2147483648 ≤ (c 38 (p_).toNat) ∧ (c 38 (p_).toNat) ≤ 2147483647 := hC 38 _
      refine tt_k 2 (S' := (120, [some (.inr (.inl 30)), some (.inl x), some (.inl y), some (.inl p_), none, none, none, none, none, none], [.inl ((j7 - (c 38 (p_).toNat))), .inl (s 3017), .inl 0, .inr (.inl 30)], n, D, (us s 3045 j7), p, c)) rfl ?_
      exact K13 ((j7 - (c 38 (p_).toNat)))  (by omega) (trivial)
  refine tb_lt (x := (s 3043)) (y := (max (s 3041) (s 3042))) rfl rfl (by omega) (fun h168 => ?_) (fun h168 => ?_)
  · show tt Zi d 173 (33, [some (.inr (.inl 30)), some (.inl x), some (.inl y), some (.inl p_), none, none, none, none, none, none], [.inr (.inl 30)], n, D, s, p, c) _
    refine tt_k 6 (S' := (45, [some (.inr (.inl 30)), some (.inl x), some (.inl y), some (.inl p_), none, none, none, none, none, none], [.inl (s 3042), .inl (s 3041), .inl (s 3043), .inr (.inl 30)], n, D, s, p, c)) rfl ?_
    refine tt_cl (by omega) rfl (k_less (Zi := Zi) (D := D) (s := s) (p := p) (c := c) (by omega) hS hC (s 3041) (s 3042) (by omega) (by omega)) ?_
    rintro _ _ ⟨r169, rfl, rfl, b170, k171⟩
    show tt Zi d 173 (48, [some (.inr (.inl 30)), some (.inl x), some (.inl y), some (.inl p_), none, none, none, none, none, none], [.inl r169, .inl (s 3043), .inr (.inl 30)], n, D, s, p, c) _
    replace k171 : r169 = min (s 3041) (s 3042) := k171
    subst k171
    show tt Zi d 173 (48, [some (.inr (.inl 30)), some (.inl x), some (.inl y), some (.inl p_), none, none, none, none, none, none], [.inl (min (s 3041) (s 3042)), .inl (s 3043), .inr (.inl 30)], n, D, s, p, c) _
    refine tb_gt (x := (s 3043)) (y := (min (s 3041) (s 3042))) rfl rfl (by omega) (fun h172 => ?_) (fun h172 => ?_)
    · show tt Zi d 173 (65, [some (.inr (.inl 30)), some (.inl x), some (.inl y), some (.inl p_), none, none, none, none, none, none], [.inr (.inl 30)], n, D, s, p, c) _
      refine tt_k 8 (S' := (79, [some (.inr (.inl 30)), some (.inl x), some (.inl y), some (.inl p_), none, none, none, none, none, none], [.inl ((((s 3041) + (s 3042)) - (s 3043))), .inr (.inl 30)], n, D, s, p, c)) rfl ?_
      exact K8 ((((s 3041) + (s 3042)) - (s 3043)))  (by omega) (trivial)
    · show tt Zi d 173 (51, [some (.inr (.inl 30)), some (.inl x), some (.inl y), some (.inl p_), none, none, none, none, none, none], [.inr (.inl 30)], n, D, s, p, c) _
      refine tt_k 4 (S' := (59, [some (.inr (.inl 30)), some (.inl x), some (.inl y), some (.inl p_), none, none, none, none, none, none], [.inl (s 3042), .inl (s 3041), .inr (.inl 30)], n, D, s, p, c)) rfl ?_
      refine tt_cl (by omega) rfl (k_more (Zi := Zi) (D := D) (s := s) (p := p) (c := c) (by omega) hS hC (s 3041) (s 3042) (by omega) (by omega)) ?_
      rintro _ _ ⟨r173, rfl, rfl, b174, k175⟩
      show tt Zi d 173 (62, [some (.inr (.inl 30)), some (.inl x), some (.inl y), some (.inl p_), none, none, none, none, none, none], [.inl r173, .inr (.inl 30)], n, D, s, p, c) _
      replace k175 : r173 = max (s 3041) (s 3042) := k175
      subst k175
      show tt Zi d 173 (62, [some (.inr (.inl 30)), some (.inl x), some (.inl y), some (.inl p_), none, none, none, none, none, none], [.inl (max (s 3041) (s 3042)), .inr (.inl 30)], n, D, s, p, c) _
      refine tt_k 1 (S' := (79, [some (.inr (.inl 30)), some (.inl x), some (.inl y), some (.inl p_), none, none, none, none, none, none], [.inl (max (s 3041) (s 3042)), .inr (.inl 30)], n, D, s, p, c)) rfl ?_
      exact K8 (max (s 3041) (s 3042))  (by omega) (trivial)
  · show tt Zi d 173 (19, [some (.inr (.inl 30)), some (.inl x), some (.inl y), some (.inl p_), none, none, none, none, none, none], [.inr (.inl 30)], n, D, s, p, c) _
    refine tt_k 4 (S' := (27, [some (.inr (.inl 30)), some (.inl x), some (.inl y), some (.inl p_), none, none, none, none, none, none], [.inl (s 3042), .inl (s 3041), .inr (.inl 30)], n, D, s, p, c)) rfl ?_
    refine tt_cl (by omega) rfl (k_less (Zi := Zi) (D := D) (s := s) (p := p) (c := c) (by omega) hS hC (s 3041) (s 3042) (by omega) (by omega)) ?_
    rintro _ _ ⟨r176, rfl, rfl, b177, k178⟩
    show tt Zi d 173 (30, [some (.inr (.inl 30)), some (.inl x), some (.inl y), some (.inl p_), none, none, none, none, none, none], [.inl r176, .inr (.inl 30)], n, D, s, p, c) _
    replace k178 : r176 = min (s 3041) (s 3042) := k178
    subst k178
    show tt Zi d 173 (30, [some (.inr (.inl 30)), some (.inl x), some (.inl y), some (.inl p_), none, none, none, none, none, none], [.inl (min (s 3041) (s 3042)), .inr (.inl 30)], n, D, s, p, c) _
    refine tt_k 1 (S' := (79, [some (.inr (.inl 30)), some (.inl x), some (.inl y), some (.inl p_), none, none, none, none, none, none], [.inl (min (s 3041) (s 3042)), .inr (.inl 30)], n, D, s, p, c)) rfl ?_
    exact K8 (min (s 3041) (s 3042))  (by omega) (trivial)
