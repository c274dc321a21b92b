/-! the reference tells a sample of a place, exactly -/
set_option maxRecDepth 100000 in
set_option maxHeartbeats 4000000 in
theorem y_errorOf {Zi : Nat → Option (Nat × (Nat → Int))} {d n : Nat} {D : Nat → Nat × Nat} {s : Nat → Int} {p : Nat → Nat} {c : Nat → Nat → Int} (hd : 0 ≤ d) (hS : bS s) (hC : bC D c) (Z : Nat → Int) (x : Int) (b_x : 0 ≤ x ∧ x ≤ 65535) (hp0 : mv s) (hp1 : x ≤ s 3017 ∧ 0 ≤ s 3045 ∧ s 3045 ≤ s 3017) (hp2 : zq Z (s 3017) (s 3018) (s 3019) (s 3020) (s 3021) (s 3022) (s 3023) (s 3024) (s 3025) (s 3026)) : tt Zi d 163 (0, [some (.inr (.inl 30)), some (.inl x), none], [], n, D, s, p, c) (fun R H => ∃ (r : Int), R = .inl (some (.inl r)) ∧ H = (n, D, s, p, c) ∧ (-65536 ≤ r ∧ r ≤ 65536) ∧ (-(s 3024 / 2) ≤ r ∧ r ≤ (s 3024 - 1) / 2) ∧ ((s 3018 < x - s 3045 ∨ s 3018 < s 3045 - x) → r ≠ 0) ∧ (r = eR Z (s 3045) (s 3046) x)) := by
  refine tt_conj (k_errorOf (Zi := Zi) (D := D) (s := s) (p := p) (c := c) (by omega) hS hC x b_x hp0 hp1) (x_errorOf (Zi := Zi) (D := D) (s := s) (p := p) (c := c) (by omega) hS hC Z x b_x hp0 hp1 hp2) ?_
  rintro _ _ ⟨r1, rfl, rfl, b1, k1_0, k1_1⟩ _ _ ⟨r2, rfl, rfl, b2, k2_0⟩ hR hH
  have er : r2 = r1 := mk_r (by omega) (by omega) hR
  rw [er] at k2_0
  exact ⟨r1, rfl, rfl, b1, k1_0, k1_1, k2_0⟩
set_option maxRecDepth 100000 in
set_option maxHeartbeats 4000000 in
theorem y_sampleOf {Zi : Nat → Option (Nat × (Nat → Int))} {d n : Nat} {D : Nat → Nat × Nat} {s : Nat → Int} {p : Nat → Nat} {c : Nat → Nat → Int} (hd : 1 ≤ d) (hS : bS s) (hC : bC D c) (Z : Nat → Int) (e : Int) (b_e : -65536 ≤ e ∧ e ≤ 65536) (hp0 : mv s) (hp1 : -65535 ≤ s 3045 ∧ s 3045 ≤ 131070) (hp2 : zq Z (s 3017) (s 3018) (s 3019) (s 3020) (s 3021) (s 3022) (s 3023) (s 3024) (s 3025) (s 3026)) : tt Zi d 171 (0, [some (.inr (.inl 30)), some (.inl e), none], [], n, D, s, p, c) (fun R H => ∃ (r : Int), R = .inl (some (.inl r)) ∧ H = (n, D, s, p, c) ∧ (0 ≤ r ∧ r ≤ 65535) ∧ (0 ≤ r ∧ r ≤ s 3017) ∧ (r = rR Z (s 3045) (s 3046) e)) := by
  refine tt_conj (k_sampleOf (Zi := Zi) (D := D) (s := s) (p := p) (c := c) (by omega) hS hC e b_e hp0 hp1) (x_sampleOf (Zi := Zi) (D := D) (s := s) (p := p) (c := c) (by omega) hS hC Z e b_e hp0 hp1 hp2) ?_
  rintro _ _ ⟨r1, rfl, rfl, b1, k1_0⟩ _ _ ⟨r2, rfl, rfl, b2, k2_0⟩ hR hH
  have er : r2 = r1 := mk_r (by omega) (by omega) hR
  rw [er] at k2_0
  exact ⟨r1, rfl, rfl, b1, k1_0, k2_0⟩
set_option maxRecDepth 100000 in
set_option maxHeartbeats 4000000 in
theorem x_reg {Zi : Nat → Option (Nat × (Nat → Int))} {d n : Nat} {D : Nat → Nat × Nat} {s : Nat → Int} {p : Nat → Nat} {c : Nat → Nat → Int} (hd : 4 ≤ d) (hS : bS s) (hC : bC D c) (t : Int) (Z : Nat → Int) (W : WT) (M : MT) (x : Int) (y : Int) (p_ : Int) (b_x : 0 ≤ x ∧ x ≤ 63) (b_y : 0 ≤ y ∧ y ≤ 63) (b_p_ : 0 ≤ p_ ∧ p_ ≤ 364) (hp0 : mv s) (hp1 : s 3036 = 1 ∧ s 3050 = 0 ∧ x < s 3037) (hp2 : (0 ≤ s 3041 ∧ s 3041 ≤ s 3017) ∧ (0 ≤ s 3042 ∧ s 3042 ≤ s 3017) ∧ (0 ≤ s 3043 ∧ s 3043 ≤ s 3017)) (hp3 : pl s t c) (hp4 : 0 ≤ t ∧ t ≤ 4095) (hp5 : w_ok (s 3047) (s 3048)) (hp6 : s 3016 + 100 ≤ 65535) (hp7 : c 31 (s 3039 + 64 * y + x).toNat ≤ s 3017) (hp8 : zq Z (s 3017) (s 3018) (s 3019) (s 3020) (s 3021) (s 3022) (s 3023) (s 3024) (s 3025) (s 3026)) (hp9 : wrl W (s 3016) (s 3047) (s 3048) (c 35)) (hp10 : mrl M (c 36) (c 37) (c 38) (c 39)) : tt Zi d 173 (0, [some (.inr (.inl 30)), some (.inl x), some (.inl y), some (.inl p_), none, none, none, none, none, none], [], n, D, s, p, c) (fun R H => ∃ (s' : Nat → Int) (c' : Nat → Nat → Int), R = .inl none ∧ H = (n, D, s', p, c') ∧ bS s' ∧ bC D c' ∧ fr s s' [3016, 3045, 3047, 3048] ∧ frc c c' [35, 36, 37, 38, 39, 44] ∧ (w_ok (s' 3047) (s' 3048)) ∧ (s 3016 ≤ s' 3016 ∧ s' 3016 ≤ s 3016 + 96) ∧ (wrl (wNum W (fM (eR Z (gR Z (s 3041) (s 3042) (s 3043) (s 3046) p_.toNat M) (s 3046) (c 31 (s 3039 + 64 * y + x).toNat)) (oR Z p_.toNat M)) (ke (M 36 p_.toNat) (M 39 p_.toNat)) (Z 3026 - Z 3025 - 1) (Z 3025)) (s' 3016) (s' 3047) (s' 3048) (c' 35)) ∧ (mrl (mLrn Z M p_.toNat (eR Z (gR Z (s 3041) (s 3042) (s 3043) (s 3046) p_.toNat M) (s 3046) (c 31 (s 3039 + 64 * y + x).toNat))) (c' 36) (c' 37) (c' 38) (c' 39)) ∧ (c' 44 = ua (c 44) (s 3039 + 64 * y + x).toNat (rR Z (gR Z (s 3041) (s 3042) (s 3043) (s 3046) p_.toNat M) (s 3046) (eR Z (gR Z (s 3041) (s 3042) (s 3043) (s 3046) p_.toNat M) (s 3046) (c 31 (s 3039 + 64 * y + x).toNat))))) := by
  have mvx := mv_fx hp0
  have hi := hp3 (p_).toNat (by omega)
  have hb := pl_bd hp0 (by omega) hi
  have hzq := hp8
  obtain ⟨z0, z1, z2, z3, z4, z5, z6, z7, z8, z9⟩ := hzq
  have hM := hp10 (p_).toNat (by omega)
  clear hi
  refine tt_k 7 (S' := (13, [some (.inr (.inl 30)), some (.inl x), some (.inl y), some (.inl p_), none, none, none, none, none, none], [.inl (s 3042), .inl (s 3041), .inl (s 3043), .inr (.inl 30)], n, D, s, p, c)) rfl ?_
  have b1 : 0 ≤ (s 3041) ∧ (s 3041) ≤ 65535 := hS 3041
  have b2 : 0 ≤ (s 3042) ∧ (s 3042) ≤ 65535 := hS 3042
  refine tt_cl (by omega) rfl (k_more (Zi := Zi) (D := D) (s := s) (p := p) (c := c) (by omega) hS hC (s 3041) (s 3042) (by omega) (by omega)) ?_
  rintro _ _ ⟨r3, rfl, rfl, b4, k5⟩
  show tt Zi d 173 (16, [some (.inr (.inl 30)), some (.inl x), some (.inl y), some (.inl p_), none, none, none, none, none, none], [.inl r3, .inl (s 3043), .inr (.inl 30)], n, D, s, p, c) _
  replace k5 : r3 = max (s 3041) (s 3042) := k5
  subst k5
  show tt Zi d 173 (16, [some (.inr (.inl 30)), some (.inl x), some (.inl y), some (.inl p_), none, none, none, none, none, none], [.inl (max (s 3041) (s 3042)), .inl (s 3043), .inr (.inl 30)], n, D, s, p, c) _
  have b6 : 0 ≤ (s 3043) ∧ (s 3043) ≤ 65535 := hS 3043
  have K8 : ∀ (j7 : Int) , (-2147483648 ≤ j7 ∧ j7 ≤ 2147483647) → (j7 = fP (s 3041) (s 3042) (s 3043)) → (-65535 ≤ j7 ∧ j7 ≤ 131070) → (True) → tt Zi d 173 (79, [some (.inr (.inl 30)), some (.inl x), some (.inl y), some (.inl p_), none, none, none, none, none, none], [.inl j7, .inr (.inl 30)], n, D, s, p, c) (fun R H => ∃ (s' : Nat → Int) (c' : Nat → Nat → Int), R = .inl none ∧ H = (n, D, s', p, c') ∧ bS s' ∧ bC D c' ∧ fr s s' [3016, 3045, 3047, 3048] ∧ frc c c' [35, 36, 37, 38, 39, 44] ∧ (w_ok (s' 3047) (s' 3048)) ∧ (s 3016 ≤ s' 3016 ∧ s' 3016 ≤ s 3016 + 96) ∧ (wrl (wNum W (fM (eR Z (gR Z (s 3041) (s 3042) (s 3043) (s 3046) p_.toNat M) (s 3046) (c 31 (s 3039 + 64 * y + x).toNat)) (oR Z p_.toNat M)) (ke (M 36 p_.toNat) (M 39 p_.toNat)) (Z 3026 - Z 3025 - 1) (Z 3025)) (s' 3016) (s' 3047) (s' 3048) (c' 35)) ∧ (mrl (mLrn Z M p_.toNat (eR Z (gR Z (s 3041) (s 3042) (s 3043) (s 3046) p_.toNat M) (s 3046) (c 31 (s 3039 + 64 * y + x).toNat))) (c' 36) (c' 37) (c' 38) (c' 39)) ∧ (c' 44 = ua (c 44) (s 3039 + 64 * y + x).toNat (rR Z (gR Z (s 3041) (s 3042) (s 3043) (s 3046) p_.toNat M) (s 3046) (eR Z (gR Z (s 3041) (s 3042) (s 3043) (s 3046) p_.toNat M) (s 3046) (c 31 (s 3039 + 64 * y + x).toNat))))) := by
    intro j7 b10 b11 b12 hj9
    refine tt_k 7 (S' := (92, [some (.inr (.inl 30)), some (.inl x), some (.inl y), some (.inl p_), none, none, none, none, none, none], [.inl (s 3046), .inl (s 3017), .inl 0, .inr (.inl 30)], n, D, (us s 3045 j7), p, c)) rfl ?_
    have b13 : 0 ≤ (s 3046) ∧ (s 3046) ≤ 1 := hS 3046
    have K15 : ∀ (j14 : Int) , (-4294967296 ≤ j14 ∧ j14 ≤ 4294967295) → (j14 = (if s 3046 = 1 then j7 - c 38 (p_).toNat else j7 + c 38 (p_).toNat)) → (-70000 ≤ j14 ∧ j14 ≤ 140000) → (True) → tt Zi d 173 (120, [some (.inr (.inl 30)), some (.inl x), some (.inl y), some (.inl p_), none, none, none, none, none, none], [.inl j14, .inl (s 3017), .inl 0, .inr (.inl 30)], n, D, (us s 3045 j7), p, c) (fun R H => ∃ (s' : Nat → Int) (c' : Nat → Nat → Int), R = .inl none ∧ H = (n, D, s', p, c') ∧ bS s' ∧ bC D c' ∧ fr s s' [3016, 3045, 3047, 3048] ∧ frc c c' [35, 36, 37, 38, 39, 44] ∧ (w_ok (s' 3047) (s' 3048)) ∧ (s 3016 ≤ s' 3016 ∧ s' 3016 ≤ s 3016 + 96) ∧ (wrl (wNum W (fM (eR Z (gR Z (s 3041) (s 3042) (s 3043) (s 3046) p_.toNat M) (s 3046) (c 31 (s 3039 + 64 * y + x).toNat)) (oR Z p_.toNat M)) (ke (M 36 p_.toNat) (M 39 p_.toNat)) (Z 3026 - Z 3025 - 1) (Z 3025)) (s' 3016) (s' 3047) (s' 3048) (c' 35)) ∧ (mrl (mLrn Z M p_.toNat (eR Z (gR Z (s 3041) (s 3042) (s 3043) (s 3046) p_.toNat M) (s 3046) (c 31 (s 3039 + 64 * y + x).toNat))) (c' 36) (c' 37) (c' 38) (c' 39)) ∧ (c' 44 = ua (c 44) (s 3039 + 64 * y + x).toNat (rR Z (gR Z (s 3041) (s 3042) (s 3043) (s 3046) p_.toNat M) (s 3046) (eR Z (gR Z (s 3041) (s 3042) (s 3043) (s 3046) p_.toNat M) (s 3046) (c 31 (s 3039 + 64 * y + x).toNat))))) := by
      intro j14 b17 b18 b19 hj16
      have b20 : 0 ≤ (s 3017) ∧ (s 3017) ≤ 65535 := hS 3017
      refine tt_cl (by omega) rfl (k_less (Zi := Zi) (D := D) (s := (us s 3045 j7)) (p := p) (c := c) (by omega) (bS_us hS (show -65535 ≤ j7 ∧ j7 ≤ 131070 by omega)) hC (s 3017) j14 (by omega) (by omega)) ?_
      rintro _ _ ⟨r21, rfl, rfl, b22, k23⟩
      show tt Zi d 173 (123, [some (.inr (.inl 30)), some (.inl x), some (.inl y), some (.inl p_), none, none, none, none, none, none], [.inl r21, .inl 0, .inr (.inl 30)], n, D, (us s 3045 j7), p, c) _
      replace k23 : r21 = min (s 3017) j14 := k23
      subst k23
      show tt Zi d 173 (123, [some (.inr (.inl 30)), some (.inl x), some (.inl y), some (.inl p_), none, none, none, none, none, none], [.inl (min (s 3017) j14), .inl 0, .inr (.inl 30)], n, D, (us s 3045 j7), p, c) _
      refine tt_cl (by omega) rfl (k_more (Zi := Zi) (D := D) (s := (us s 3045 j7)) (p := p) (c := c) (by omega) (bS_us hS (show -65535 ≤ j7 ∧ j7 ≤ 131070 by omega)) hC 0 (min (s 3017) j14) (by omega) (by omega)) ?_
      rintro _ _ ⟨r24, rfl, rfl, b25, k26⟩
      show tt Zi d 173 (126, [some (.inr (.inl 30)), some (.inl x), some (.inl y), some (.inl p_), none, none, none, none, none, none], [.inl r24, .inr (.inl 30)], n, D, (us s 3045 j7), p, c) _
      replace k26 : r24 = max 0 (min (s 3017) j14) := k26
      subst k26
      show tt Zi d 173 (126, [some (.inr (.inl 30)), some (.inl x), some (.inl y), some (.inl p_), none, none, none, none, none, none], [.inl ((max 0 (min (s 3017) j14))), .inr (.inl 30)], n, D, (us s 3045 j7), p, c) _
      refine tt_k 1 (S' := (129, [some (.inr (.inl 30)), some (.inl x), some (.inl y), some (.inl p_), none, none, none, none, none, none], [], n, D, (us (us s 3045 j7) 3045 ((max 0 (min (s 3017) j14)))), p, c)) rfl ?_
      have hG : (max 0 (min (s 3017) j14)) = gR Z (s 3041) (s 3042) (s 3043) (s 3046) p_.toNat M := by unfold gR fW; rw [← z0, ← hM.2.2.1, ← b11, b18]
      refine tt_k 4 (S' := (135, [some (.inr (.inl 30)), some (.inl x), some (.inl y), some (.inl p_), none, none, none, none, none, none], [.inl p_, .inr (.inl 36), .inr (.inl 30)], n, D, (us (us s 3045 j7) 3045 ((max 0 (min (s 3017) j14)))), p, c)) rfl ?_
      refine tt_ildv (i := p_) (v := (c 36 (p_).toNat)) rfl rfl (by omega) rfl ?_
      show tt Zi d 173 (136, [some (.inr (.inl 30)), some (.inl x), some (.inl y), some (.inl p_), none, none, none, none, none, none], [.inl (c 36 (p_).toNat), .inr (.inl 30)], n, D, (us (us s 3045 j7) 3045 ((max 0 (min (s 3017) j14)))), p, c) _
      have b27 : -2147483648 ≤ (c 36 (p_).toNat) ∧ (c 36 (p_).toNat) ≤ 2147483647 := hC 36 _
      refine tt_k 3 (S' := (141, [some (.inr (.inl 30)), some (.inl x), some (.inl y), some (.inl p_), none, none, none, none, none, none], [.inl p_, .inr (.inl 39), .inl (c 36 (p_).toNat), .inr (.inl 30)], n, D, (us (us s 3045 j7) 3045 ((max 0 (min (s 3017) j14)))), p, c)) rfl ?_
      refine tt_ildv (i := p_) (v := (c 39 (p_).toNat)) rfl rfl (by omega) rfl ?_
      show tt Zi d 173 (142, [some (.inr (.inl 30)), some (.inl x), some (.inl y), some (.inl p_), none, none, none, none, none, none], [.inl (c 39 (p_).toNat), .inl (c 36 (p_).toNat), .inr (.inl 30)], n, D, (us (us s 3045 j7) 3045 ((max 0 (min (s 3017) j14)))), p, c) _
      have b28 : -2147483648 ≤ (c 39 (p_).toNat) ∧ (c 39 (p_).toNat) ≤ 2147483647 := hC 39 _
      refine tt_cl (by omega) rfl (k_exponent (Zi := Zi) (D := D) (s := (us (us s 3045 j7) 3045 ((max 0 (min (s 3017) j14))))) (p := p) (c := c) (by omega) (bS_us (bS_us hS (show -65535 ≤ j7 ∧ j7 ≤ 131070 by omega)) (show -65535 ≤ (max 0 (min (s 3017) j14)) ∧ (max 0 (min (s 3017) j14)) ≤ 131070 by omega)) hC (c 36 (p_).toNat) (c 39 (p_).toNat) (by omega) (by omega)) ?_
      rintro _ _ ⟨r29, rfl, rfl, b30, k31, k32⟩
      show tt Zi d 173 (145, [some (.inr (.inl 30)), some (.inl x), some (.inl y), some (.inl p_), none, none, none, none, none, none], [.inl r29], n, D, (us (us s 3045 j7) 3045 ((max 0 (min (s 3017) j14)))), p, c) _
      replace k31 : (c 36 (p_).toNat) ≤ (c 39 (p_).toNat) * 2 ^ r29.toNat := k31
      replace k32 : r29 = 0 ∨ (c 39 (p_).toNat) * 2 ^ (r29 - 1).toNat < (c 36 (p_).toNat) := k32
      have hke : r29 = ke (c 36 (p_).toNat) (c 39 (p_).toNat) := ke_eq (by omega) (by omega) k31 k32
      clear k31 k32
      refine tt_k 3 (S' := (151, [some (.inr (.inl 30)), some (.inl x), some (.inl y), some (.inl p_), some (.inl r29), none, none, none, none, none], [.inl (s 3018)], n, D, (us (us s 3045 j7) 3045 ((max 0 (min (s 3017) j14)))), p, c)) rfl ?_
      have b33 : -2147483648 ≤ (s 3018) ∧ (s 3018) ≤ 2147483647 := hS 3018
      have K35 : ∀ (j34 : Int) , (0 ≤ j34 ∧ j34 ≤ 1) → (j34 = (if s 3018 = 0 ∧ r29 = 0 ∧ 2 * c 37 (p_).toNat ≤ -(c 39 (p_).toNat) then 1 else 0)) → (True) → tt Zi d 173 (182, [some (.inr (.inl 30)), some (.inl x), some (.inl y), some (.inl p_), some (.inl r29), none, none, none, none, none], [.inl j34], n, D, (us (us s 3045 j7) 3045 ((max 0 (min (s 3017) j14)))), p, c) (fun R H => ∃ (s' : Nat → Int) (c' : Nat → Nat → Int), R = .inl none ∧ H = (n, D, s', p, c') ∧ bS s' ∧ bC D c' ∧ fr s s' [3016, 3045, 3047, 3048] ∧ frc c c' [35, 36, 37, 38, 39, 44] ∧ (w_ok (s' 3047) (s' 3048)) ∧ (s 3016 ≤ s' 3016 ∧ s' 3016 ≤ s 3016 + 96) ∧ (wrl (wNum W (fM (eR Z (gR Z (s 3041) (s 3042) (s 3043) (s 3046) p_.toNat M) (s 3046) (c 31 (s 3039 + 64 * y + x).toNat)) (oR Z p_.toNat M)) (ke (M 36 p_.toNat) (M 39 p_.toNat)) (Z 3026 - Z 3025 - 1) (Z 3025)) (s' 3016) (s' 3047) (s' 3048) (c' 35)) ∧ (mrl (mLrn Z M p_.toNat (eR Z (gR Z (s 3041) (s 3042) (s 3043) (s 3046) p_.toNat M) (s 3046) (c 31 (s 3039 + 64 * y + x).toNat))) (c' 36) (c' 37) (c' 38) (c' 39)) ∧ (c' 44 = ua (c 44) (s 3039 + 64 * y + x).toNat (rR Z (gR Z (s 3041) (s 3042) (s 3043) (s 3046) p_.toNat M) (s 3046) (eR Z (gR Z (s 3041) (s 3042) (s 3043) (s 3046) p_.toNat M) (s 3046) (c 31 (s 3039 + 64 * y + x).toNat))))) := by
        intro j34 b37 b38 hj36
        refine tt_k 5 (S' := (191, [some (.inr (.inl 30)), some (.inl x), some (.inl y), some (.inl p_), some (.inl r29), some (.inl j34), some (.inl 0), none, none, none], [.inl (s 3036)], n, D, (us (us s 3045 j7) 3045 ((max 0 (min (s 3017) j14)))), p, c)) rfl ?_
        have b39 : 0 ≤ (s 3036) ∧ (s 3036) ≤ 1 := hS 3036
        refine tz_eq (x := (s 3036)) rfl rfl (by omega) (fun h40 => ?_) (fun h40 => ?_)
        · exfalso; omega
        · show tt Zi d 173 (194, [some (.inr (.inl 30)), some (.inl x), some (.inl y), some (.inl p_), some (.inl r29), some (.inl j34), some (.inl 0), none, none, none], [], n, D, (us (us s 3045 j7) 3045 ((max 0 (min (s 3017) j14)))), p, c) _
          refine tt_k 11 (S' := (210, [some (.inr (.inl 30)), some (.inl x), some (.inl y), some (.inl p_), some (.inl r29), some (.inl j34), some (.inl 0), none, none, none], [.inl ((((s 3039) + (64 * y)) + x)), .inr (.inl 31), .inr (.inl 30)], n, D, (us (us s 3045 j7) 3045 ((max 0 (min (s 3017) j14)))), p, c)) rfl ?_
          have b41 : 0 ≤ (s 3039) ∧ (s 3039) ≤ 8192 := hS 3039
          refine tt_ildv (i := (((s 3039) + (64 * y)) + x)) (v := (c 31 ((((s 3039) + (64 * y)) + x)).toNat)) rfl rfl (by omega) rfl ?_
          show tt Zi d 173 (211, [some (.inr (.inl 30)), some (.inl x), some (.inl y), some (.inl p_), some (.inl r29), some (.inl j34), some (.inl 0), none, none, none], [.inl ((c 31 ((((s 3039) + (64 * y)) + x)).toNat)), .inr (.inl 30)], n, D, (us (us s 3045 j7) 3045 ((max 0 (min (s 3017) j14)))), p, c) _
          have b42 : 0 ≤ (c 31 ((((s 3039) + (64 * y)) + x)).toNat) ∧ (c 31 ((((s 3039) + (64 * y)) + x)).toNat) ≤ 65535 := hC 31 _
          have b43 : -2147483648 ≤ (s 3019) ∧ (s 3019) ≤ 2147483647 := hS 3019
          have b44 : -2147483648 ≤ (s 3020) ∧ (s 3020) ≤ 2147483647 := hS 3020
          have b45 : -2147483648 ≤ (s 3021) ∧ (s 3021) ≤ 2147483647 := hS 3021
          have b46 : 0 ≤ (s 3022) ∧ (s 3022) ≤ 65535 := hS 3022
          have b47 : -2147483648 ≤ (s 3023) ∧ (s 3023) ≤ 2147483647 := hS 3023
          have b48 : -2147483648 ≤ (s 3024) ∧ (s 3024) ≤ 2147483647 := hS 3024
          have b49 : 0 ≤ (s 3025) ∧ (s 3025) ≤ 31 := hS 3025
          have b50 : 0 ≤ (s 3026) ∧ (s 3026) ≤ 96 := hS 3026
          refine tt_cl (by omega) rfl (y_errorOf (Zi := Zi) (D := D) (s := (us (us s 3045 j7) 3045 ((max 0 (min (s 3017) j14))))) (p := p) (c := c) (by omega) (bS_us (bS_us hS (show -65535 ≤ j7 ∧ j7 ≤ 131070 by omega)) (show -65535 ≤ (max 0 (min (s 3017) j14)) ∧ (max 0 (min (s 3017) j14)) ≤ 131070 by omega)) hC Z ((c 31 ((((s 3039) + (64 * y)) + x)).toNat)) (by omega) (mv_us (by decide) (mv_us (by decide) hp0)) (show ((c 31 ((((s 3039) + (64 * y)) + x)).toNat)) ≤ (s 3017) ∧ 0 ≤ ((max 0 (min (s 3017) j14))) ∧ ((max 0 (min (s 3017) j14))) ≤ (s 3017) by omega) hp8) ?_
          rintro _ _ ⟨r51, rfl, rfl, b52, k53, k54, k55⟩
          show tt Zi d 173 (214, [some (.inr (.inl 30)), some (.inl x), some (.inl y), some (.inl p_), some (.inl r29), some (.inl j34), some (.inl 0), none, none, none], [.inl r51], n, D, (us (us s 3045 j7) 3045 ((max 0 (min (s 3017) j14)))), p, c) _
          replace k53 : -((s 3024) / 2) ≤ r51 ∧ r51 ≤ ((s 3024) - 1) / 2 := k53
          replace k54 : ((s 3018) < ((c 31 ((((s 3039) + (64 * y)) + x)).toNat)) - ((max 0 (min (s 3017) j14))) ∨ (s 3018) < ((max 0 (min (s 3017) j14))) - ((c 31 ((((s 3039) + (64 * y)) + x)).toNat))) → r51 ≠ 0 := k54
          replace k55 : r51 = eR Z (((max 0 (min (s 3017) j14)))) ((s 3046)) ((c 31 ((((s 3039) + (64 * y)) + x)).toNat)) := k55
          clear k54
          refine tt_k 2 (S' := (218, [some (.inr (.inl 30)), some (.inl x), some (.inl y), some (.inl p_), some (.inl r29), some (.inl j34), some (.inl r51), none, none, none], [.inl r51], n, D, (us (us s 3045 j7) 3045 ((max 0 (min (s 3017) j14)))), p, c)) rfl ?_
          have K57 : ∀ (j56 : Int) , (0 ≤ j56 ∧ j56 ≤ 131073) → (j56 = fM r51 j34) → (0 ≤ j56 ∧ j56 ≤ 65536) → (True) → tt Zi d 173 (264, [some (.inr (.inl 30)), some (.inl x), some (.inl y), some (.inl p_), some (.inl r29), some (.inl j34), some (.inl r51), none, none, none], [.inl j56], n, D, (us (us s 3045 j7) 3045 ((max 0 (min (s 3017) j14)))), p, c) (fun R H => ∃ (s' : Nat → Int) (c' : Nat → Nat → Int), R = .inl none ∧ H = (n, D, s', p, c') ∧ bS s' ∧ bC D c' ∧ fr s s' [3016, 3045, 3047, 3048] ∧ frc c c' [35, 36, 37, 38, 39, 44] ∧ (w_ok (s' 3047) (s' 3048)) ∧ (s 3016 ≤ s' 3016 ∧ s' 3016 ≤ s 3016 + 96) ∧ (wrl (wNum W (fM (eR Z (gR Z (s 3041) (s 3042) (s 3043) (s 3046) p_.toNat M) (s 3046) (c 31 (s 3039 + 64 * y + x).toNat)) (oR Z p_.toNat M)) (ke (M 36 p_.toNat) (M 39 p_.toNat)) (Z 3026 - Z 3025 - 1) (Z 3025)) (s' 3016) (s' 3047) (s' 3048) (c' 35)) ∧ (mrl (mLrn Z M p_.toNat (eR Z (gR Z (s 3041) (s 3042) (s 3043) (s 3046) p_.toNat M) (s 3046) (c 31 (s 3039 + 64 * y + x).toNat))) (c' 36) (c' 37) (c' 38) (c' 39)) ∧ (c' 44 = ua (c 44) (s 3039 + 64 * y + x).toNat (rR Z (gR Z (s 3041) (s 3042) (s 3043) (s 3046) p_.toNat M) (s 3046) (eR Z (gR Z (s 3041) (s 3042) (s 3043) (s 3046) p_.toNat M) (s 3046) (c 31 (s 3039 + 64 * y + x).toNat))))) := by
            intro j56 b59 b60 b61 hj58
            refine tt_k 6 (S' := (275, [some (.inr (.inl 30)), some (.inl x), some (.inl y), some (.inl p_), some (.inl r29), some (.inl j34), some (.inl r51), some (.inl j56), none, none], [.inl (s 3026), .inl r29, .inl j56, .inr (.inl 30)], n, D, (us (us s 3045 j7) 3045 ((max 0 (min (s 3017) j14)))), p, c)) rfl ?_
            have b62 : 0 ≤ (s 3047) ∧ (s 3047) ≤ 255 := hS 3047
            have b63 : 0 ≤ (s 3048) ∧ (s 3048) ≤ 8 := hS 3048
            have b64 : 0 ≤ (s 3016) ∧ (s 3016) ≤ 65536 := hS 3016
            refine tt_cl (by omega) rfl (x_putNumber (Zi := Zi) (D := D) (s := (us (us s 3045 j7) 3045 ((max 0 (min (s 3017) j14))))) (p := p) (c := c) (by omega) (bS_us (bS_us hS (show -65535 ≤ j7 ∧ j7 ≤ 131070 by omega)) (show -65535 ≤ (max 0 (min (s 3017) j14)) ∧ (max 0 (min (s 3017) j14)) ≤ 131070 by omega)) hC W j56 r29 (s 3026) (by omega) (by omega) (by omega) hp5 (show (s 3016) + 100 ≤ 65535 by omega) (show 0 ≤ (s 3026) - (s 3025) - 1 ∧ (s 3026) - (s 3025) - 1 ≤ 64 ∧ (s 3025) ≤ 30 by omega) hp9) ?_
            rintro _ _ ⟨s65, c66, rfl, rfl, hS65, hC66, f67, g68, k69, k70, k71⟩
            have hc72 : mv s65 := mv_fr f67 (by decide) (mv_us (by decide) (mv_us (by decide) hp0))
            show tt Zi d 173 (278, [some (.inr (.inl 30)), some (.inl x), some (.inl y), some (.inl p_), some (.inl r29), some (.inl j34), some (.inl r51), some (.inl j56), none, none], [], n, D, s65, p, c66) _
            replace k69 : w_ok ((s65 3047)) ((s65 3048)) := k69
            replace k70 : (s 3016) ≤ (s65 3016) ∧ (s65 3016) ≤ (s 3016) + 96 := k70
            replace k71 : wrl (wNum W j56 r29 ((s 3026) - (s 3025) - 1) ((s 3025))) ((s65 3016)) ((s65 3047)) ((s65 3048)) ((c66 35)) := k71
            have b73 : 0 ≤ (s65 3047) ∧ (s65 3047) ≤ 255 := hS65 3047
            have b74 : 0 ≤ (s65 3048) ∧ (s65 3048) ≤ 8 := hS65 3048
            have b75 : 0 ≤ (s65 3016) ∧ (s65 3016) ≤ 65536 := hS65 3016
            have e76 : s65 3050 = (s 3050) := (f67 3050 (by decide))
            have b77 : 0 ≤ (s65 3050) ∧ (s65 3050) ≤ 8 := hS65 3050
            have b78 : 0 ≤ (s 3050) ∧ (s 3050) ≤ 8 := hS 3050
            have e79 : s65 3039 = (s 3039) := (f67 3039 (by decide))
            have b80 : 0 ≤ (s65 3039) ∧ (s65 3039) ≤ 8192 := hS65 3039
            have e81 : s65 3017 = (s 3017) := (f67 3017 (by decide))
            have b82 : 0 ≤ (s65 3017) ∧ (s65 3017) ≤ 65535 := hS65 3017
            have e83 : s65 3022 = (s 3022) := (f67 3022 (by decide))
            have b84 : 0 ≤ (s65 3022) ∧ (s65 3022) ≤ 65535 := hS65 3022
            have e85 : s65 3023 = (s 3023) := (f67 3023 (by decide))
            have b86 : -2147483648 ≤ (s65 3023) ∧ (s65 3023) ≤ 2147483647 := hS65 3023
            have e87 : s65 3024 = (s 3024) := (f67 3024 (by decide))
            have b88 : -2147483648 ≤ (s65 3024) ∧ (s65 3024) ≤ 2147483647 := hS65 3024
            have e89 : s65 3025 = (s 3025) := (f67 3025 (by decide))
            have b90 : 0 ≤ (s65 3025) ∧ (s65 3025) ≤ 31 := hS65 3025
            have e91 : s65 3026 = (s 3026) := (f67 3026 (by decide))
            have b92 : 0 ≤ (s65 3026) ∧ (s65 3026) ≤ 96 := hS65 3026
            have e93 : s65 3037 = (s 3037) := (f67 3037 (by decide))
            have b94 : 0 ≤ (s65 3037) ∧ (s65 3037) ≤ 64 := hS65 3037
            have b95 : 0 ≤ (s 3037) ∧ (s 3037) ≤ 64 := hS 3037
            have e96 : s65 3045 = (max 0 (min (s 3017) j14)) := (f67 3045 (by decide))
            have b97 : -65535 ≤ (s65 3045) ∧ (s65 3045) ≤ 131070 := hS65 3045
            have e98 : s65 3046 = (s 3046) := (f67 3046 (by decide))
            have b99 : 0 ≤ (s65 3046) ∧ (s65 3046) ≤ 1 := hS65 3046
            have hx100 : zq Z (s65 3017) (s65 3018) (s65 3019) (s65 3020) (s65 3021) (s65 3022) (s65 3023) (s65 3024) (s65 3025) (s65 3026) := by rw [f67 3017 (by decide), f67 3018 (by decide), f67 3019 (by decide), f67 3020 (by decide), f67 3021 (by decide), f67 3022 (by decide), f67 3023 (by decide), f67 3024 (by decide), f67 3025 (by decide), f67 3026 (by decide)]; exact hp8
            have hx101 : mrl M (c66 36) (c66 37) (c66 38) (c66 39) := by rw [g68 36 (by decide), g68 37 (by decide), g68 38 (by decide), g68 39 (by decide)]; exact hp10
            refine tt_k 3 (S' := (394, [some (.inr (.inl 30)), some (.inl x), some (.inl y), some (.inl p_), some (.inl r29), some (.inl j34), some (.inl r51), some (.inl j56), none, none], [.inl (s65 3050)], n, D, s65, p, c66)) rfl ?_
            refine tz_le (x := (s65 3050)) rfl rfl (by omega) (fun h102 => ?_) (fun h102 => ?_)
            · show tt Zi d 173 (398, [some (.inr (.inl 30)), some (.inl x), some (.inl y), some (.inl p_), some (.inl r29), some (.inl j34), some (.inl r51), some (.inl j56), none, none], [], n, D, s65, p, c66) _
              refine tt_k 12 (S' := (416, [some (.inr (.inl 30)), some (.inl x), some (.inl y), some (.inl p_), some (.inl r29), some (.inl j34), some (.inl r51), some (.inl j56), none, none], [.inl r51, .inr (.inl 30), .inl ((((s65 3039) + (64 * y)) + x)), .inr (.inl 44)], n, D, s65, p, c66)) rfl ?_
              have b103 : -2147483648 ≤ (s65 3018) ∧ (s65 3018) ≤ 2147483647 := hS65 3018
              have b104 : -2147483648 ≤ (s65 3019) ∧ (s65 3019) ≤ 2147483647 := hS65 3019
              have b105 : -2147483648 ≤ (s65 3020) ∧ (s65 3020) ≤ 2147483647 := hS65 3020
              have b106 : -2147483648 ≤ (s65 3021) ∧ (s65 3021) ≤ 2147483647 := hS65 3021
              refine tt_cl (by omega) rfl (y_sampleOf (Zi := Zi) (D := D) (s := s65) (p := p) (c := c66) (by omega) hS65 hC66 Z r51 (by omega) hc72 (show -65535 ≤ (s65 3045) ∧ (s65 3045) ≤ 131070 by omega) hx100) ?_
              rintro _ _ ⟨r107, rfl, rfl, b108, k109, k110⟩
              show tt Zi d 173 (419, [some (.inr (.inl 30)), some (.inl x), some (.inl y), some (.inl p_), some (.inl r29), some (.inl j34), some (.inl r51), some (.inl j56), none, none], [.inl r107, .inl ((((s65 3039) + (64 * y)) + x)), .inr (.inl 44)], n, D, s65, p, c66) _
              replace k109 : 0 ≤ r107 ∧ r107 ≤ (s65 3017) := k109
              replace k110 : r107 = rR Z ((s65 3045)) ((s65 3046)) r51 := k110
              refine tt_ist (i := (((s65 3039) + (64 * y)) + x)) (x := r107) rfl rfl (by omega) ?_
              show tt Zi d 173 (420, [some (.inr (.inl 30)), some (.inl x), some (.inl y), some (.inl p_), some (.inl r29), some (.inl j34), some (.inl r51), some (.inl j56), none, none], [], n, D, s65, p, (uc c66 44 (ua (c66 44) ((((s65 3039) + (64 * y)) + x)).toNat r107))) _
              refine tt_k 3 (S' := (424, [some (.inr (.inl 30)), some (.inl x), some (.inl y), some (.inl p_), some (.inl r29), some (.inl j34), some (.inl r51), some (.inl j56), none, none], [.inl r51, .inl p_, .inr (.inl 30)], n, D, s65, p, (uc c66 44 (ua (c66 44) ((((s65 3039) + (64 * y)) + x)).toNat r107)))) rfl ?_
              have z36r : c66 36 = c 36 := g68 36 (by decide)
              have zz36 := congrFun z36r (p_).toNat
              have z37r : c66 37 = c 37 := g68 37 (by decide)
              have zz37 := congrFun z37r (p_).toNat
              have z38r : c66 38 = c 38 := g68 38 (by decide)
              have zz38 := congrFun z38r (p_).toNat
              have z39r : c66 39 = c 39 := g68 39 (by decide)
              have zz39 := congrFun z39r (p_).toNat
              refine tt_cl (by omega) rfl (x_learn (Zi := Zi) (D := D) (s := s65) (p := p) (c := (uc c66 44 (ua (c66 44) ((((s65 3039) + (64 * y)) + x)).toNat r107))) (by omega) hS65 (bC_st hC66 (show 0 ≤ r107 ∧ r107 ≤ 65535 by omega)) Z M p_ r51 (by omega) (by omega) (show 1 ≤ (s65 3023) ∧ (s65 3023) ≤ 511 ∧ 3 ≤ (s65 3022) by omega) (show 0 ≤ (c66 36) p_.toNat ∧ (c66 36) p_.toNat ≤ 300000000 by omega) (show -65536 ≤ (c66 37) p_.toNat ∧ (c66 37) p_.toNat ≤ 65536 by omega) (show -128 ≤ (c66 38) p_.toNat ∧ (c66 38) p_.toNat ≤ 127 by omega) (show 1 ≤ (c66 39) p_.toNat ∧ (c66 39) p_.toNat ≤ 70000 by omega) hx100 hx101) ?_
              rintro _ _ ⟨c111, rfl, rfl, hC111, g112, k113⟩
              show tt Zi d 173 (427, [some (.inr (.inl 30)), some (.inl x), some (.inl y), some (.inl p_), some (.inl r29), some (.inl j34), some (.inl r51), some (.inl j56), none, none], [], n, D, s65, p, c111) _
              replace k113 : mrl (mLrn Z M p_.toNat r51) ((c111 36)) ((c111 37)) ((c111 38)) ((c111 39)) := k113
              have hx114 : wrl (wNum W j56 r29 ((s 3026) - (s 3025) - 1) ((s 3025))) (s65 3016) (s65 3047) (s65 3048) (c111 35) := by rw [g112 35 (by decide)]; exact k71
              have hor : j34 = oR Z p_.toNat M := by unfold oR; rw [← hM.1, ← hM.2.1, ← hM.2.2.2, ← hke, ← z1]; exact b38
              have her : r51 = eR Z (gR Z (s 3041) (s 3042) (s 3043) (s 3046) p_.toNat M) (s 3046) (c 31 (s 3039 + 64 * y + x).toNat) := by rw [← hG]; exact k55
              have hw0 := hx114
              have hkr : r29 = ke (M 36 p_.toNat) (M 39 p_.toNat) := by rw [← hM.1, ← hM.2.2.2]; exact hke
              have eG : s65 3045 = gR Z (s 3041) (s 3042) (s 3043) (s 3046) p_.toNat M := (f67 3045 (by decide)).trans hG
              have eT : s65 3046 = s 3046 := f67 3046 (by decide)
              have eB : s65 3039 = s 3039 := f67 3039 (by decide)
              exact tt_rtv rfl rfl ⟨s65, c111, rfl, rfl, hS65, hC111, (fr_tr (fr_us (by decide) (fr_us (by decide) fr_rf)) f67 (by decide)), (frc_tr (frc_uc (by decide) (frc_tr frc_rf g68 (by decide))) g112 (by decide)), k69, by show s 3016 ≤ (s65 3016) ∧ (s65 3016) ≤ s 3016 + 96; omega, by show wrl (wNum W (fM (eR Z (gR Z (s 3041) (s 3042) (s 3043) (s 3046) p_.toNat M) (s 3046) (c 31 (s 3039 + 64 * y + x).toNat)) (oR Z p_.toNat M)) (ke (M 36 p_.toNat) (M 39 p_.toNat)) (Z 3026 - Z 3025 - 1) (Z 3025)) ((s65 3016)) ((s65 3047)) ((s65 3048)) ((c111 35)); have h := hw0; rw [b60, her, hor, hkr] at h; simp only [z8, z9] at h; exact h, by show mrl (mLrn Z M p_.toNat (eR Z (gR Z (s 3041) (s 3042) (s 3043) (s 3046) p_.toNat M) (s 3046) (c 31 (s 3039 + 64 * y + x).toNat))) ((c111 36)) ((c111 37)) ((c111 38)) ((c111 39)); have h := k113; rw [her] at h; exact h, by show (c111 44) = ua (c 44) (s 3039 + 64 * y + x).toNat (rR Z (gR Z (s 3041) (s 3042) (s 3043) (s 3046) p_.toNat M) (s 3046) (eR Z (gR Z (s 3041) (s 3042) (s 3043) (s 3046) p_.toNat M) (s 3046) (c 31 (s 3039 + 64 * y + x).toNat))); have h44 := g112 44 (by decide); rw [h44]; show ua (c66 44) _ _ = _; rw [g68 44 (by decide), k110, eG, eT, eB, her]⟩
            · exfalso; omega
          refine tz_ge (x := r51) rfl rfl (by omega) (fun h115 => ?_) (fun h115 => ?_)
          · show tt Zi d 173 (246, [some (.inr (.inl 30)), some (.inl x), some (.inl y), some (.inl p_), some (.inl r29), some (.inl j34), some (.inl r51), none, none, none], [], n, D, (us (us s 3045 j7) 3045 ((max 0 (min (s 3017) j14)))), p, c) _
            refine tt_k 1 (S' := (248, [some (.inr (.inl 30)), some (.inl x), some (.inl y), some (.inl p_), some (.inl r29), some (.inl j34), some (.inl r51), none, none, none], [.inl j34], n, D, (us (us s 3045 j7) 3045 ((max 0 (min (s 3017) j14)))), p, c)) rfl ?_
            refine tz_eq (x := j34) rfl rfl (by omega) (fun h116 => ?_) (fun h116 => ?_)
            · show tt Zi d 173 (260, [some (.inr (.inl 30)), some (.inl x), some (.inl y), some (.inl p_), some (.inl r29), some (.inl j34), some (.inl r51), none, none, none], [], n, D, (us (us s 3045 j7) 3045 ((max 0 (min (s 3017) j14)))), p, c) _
              refine tt_k 3 (S' := (264, [some (.inr (.inl 30)), some (.inl x), some (.inl y), some (.inl p_), some (.inl r29), some (.inl j34), some (.inl r51), none, none, none], [.inl (2 * r51)], n, D, (us (us s 3045 j7) 3045 ((max 0 (min (s 3017) j14)))), p, c)) rfl ?_
              exact K57 (2 * r51)  (by omega) (by unfold fM; (repeat' split) <;> omega) (by omega) (trivial)
            · show tt Zi d 173 (251, [some (.inr (.inl 30)), some (.inl x), some (.inl y), some (.inl p_), some (.inl r29), some (.inl j34), some (.inl r51), none, none, none], [], n, D, (us (us s 3045 j7) 3045 ((max 0 (min (s 3017) j14)))), p, c) _
              refine tt_k 6 (S' := (264, [some (.inr (.inl 30)), some (.inl x), some (.inl y), some (.inl p_), some (.inl r29), some (.inl j34), some (.inl r51), none, none, none], [.inl ((2 * r51) + 1)], n, D, (us (us s 3045 j7) 3045 ((max 0 (min (s 3017) j14)))), p, c)) rfl ?_
              exact K57 ((2 * r51) + 1)  (by omega) (by unfold fM; (repeat' split) <;> omega) (by omega) (trivial)
          · show tt Zi d 173 (221, [some (.inr (.inl 30)), some (.inl x), some (.inl y), some (.inl p_), some (.inl r29), some (.inl j34), some (.inl r51), none, none, none], [], n, D, (us (us s 3045 j7) 3045 ((max 0 (min (s 3017) j14)))), p, c) _
            refine tt_k 1 (S' := (223, [some (.inr (.inl 30)), some (.inl x), some (.inl y), some (.inl p_), some (.inl r29), some (.inl j34), some (.inl r51), none, none, none], [.inl j34], n, D, (us (us s 3045 j7) 3045 ((max 0 (min (s 3017) j14)))), p, c)) rfl ?_
            refine tz_eq (x := j34) rfl rfl (by omega) (fun h117 => ?_) (fun h117 => ?_)
            · show tt Zi d 173 (236, [some (.inr (.inl 30)), some (.inl x), some (.inl y), some (.inl p_), some (.inl r29), some (.inl j34), some (.inl r51), none, none, none], [], n, D, (us (us s 3045 j7) 3045 ((max 0 (min (s 3017) j14)))), p, c) _
              refine tt_k 6 (S' := (264, [some (.inr (.inl 30)), some (.inl x), some (.inl y), some (.inl p_), some (.inl r29), some (.inl j34), some (.inl r51), none, none, none], [.inl ((((-2) * r51) - 1))], n, D, (us (us s 3045 j7) 3045 ((max 0 (min (s 3017) j14)))), p, c)) rfl ?_
              exact K57 ((((-2) * r51) - 1))  (by omega) (by unfold fM; (repeat' split) <;> omega) (by omega) (trivial)
            · show tt Zi d 173 (226, [some (.inr (.inl 30)), some (.inl x), some (.inl y), some (.inl p_), some (.inl r29), some (.inl j34), some (.inl r51), none, none, none], [], n, D, (us (us s 3045 j7) 3045 ((max 0 (min (s 3017) j14)))), p, c) _
              refine tt_k 6 (S' := (264, [some (.inr (.inl 30)), some (.inl x), some (.inl y), some (.inl p_), some (.inl r29), some (.inl j34), some (.inl r51), none, none, none], [.inl ((-2) * (r51 + 1))], n, D, (us (us s 3045 j7) 3045 ((max 0 (min (s 3017) j14)))), p, c)) rfl ?_
              exact K57 ((-2) * (r51 + 1))  (by omega) (by unfold fM; (repeat' split) <;> omega) (by omega) (trivial)
      refine tz_ne (x := (s 3018)) rfl rfl (by omega) (fun h118 => ?_) (fun h118 => ?_)
      · show tt Zi d 173 (181, [some (.inr (.inl 30)), some (.inl x), some (.inl y), some (.inl p_), some (.inl r29), none, none, none, none, none], [], n, D, (us (us s 3045 j7) 3045 ((max 0 (min (s 3017) j14)))), p, c) _
        refine tt_k 1 (S' := (182, [some (.inr (.inl 30)), some (.inl x), some (.inl y), some (.inl p_), some (.inl r29), none, none, none, none, none], [.inl 0], n, D, (us (us s 3045 j7) 3045 ((max 0 (min (s 3017) j14)))), p, c)) rfl ?_
        exact K35 0  (by omega) (by first | rw [if_pos (by omega)] | rw [if_neg (by omega)]) (trivial)
      · show tt Zi d 173 (154, [some (.inr (.inl 30)), some (.inl x), some (.inl y), some (.inl p_), some (.inl r29), none, none, none, none, none], [], n, D, (us (us s 3045 j7) 3045 ((max 0 (min (s 3017) j14)))), p, c) _
        refine tt_k 1 (S' := (156, [some (.inr (.inl 30)), some (.inl x), some (.inl y), some (.inl p_), some (.inl r29), none, none, none, none, none], [.inl r29], n, D, (us (us s 3045 j7) 3045 ((max 0 (min (s 3017) j14)))), p, c)) rfl ?_
        refine tz_ne (x := r29) rfl rfl (by omega) (fun h119 => ?_) (fun h119 => ?_)
        · show tt Zi d 173 (181, [some (.inr (.inl 30)), some (.inl x), some (.inl y), some (.inl p_), some (.inl r29), none, none, none, none, none], [], n, D, (us (us s 3045 j7) 3045 ((max 0 (min (s 3017) j14)))), p, c) _
          refine tt_k 1 (S' := (182, [some (.inr (.inl 30)), some (.inl x), some (.inl y), some (.inl p_), some (.inl r29), none, none, none, none, none], [.inl 0], n, D, (us (us s 3045 j7) 3045 ((max 0 (min (s 3017) j14)))), p, c)) rfl ?_
          exact K35 0  (by omega) (by first | rw [if_pos (by omega)] | rw [if_neg (by omega)]) (trivial)
        · show tt Zi d 173 (159, [some (.inr (.inl 30)), some (.inl x), some (.inl y), some (.inl p_), some (.inl r29), none, none, none, none, none], [], n, D, (us (us s 3045 j7) 3045 ((max 0 (min (s 3017) j14)))), p, c) _
          refine tt_k 4 (S' := (165, [some (.inr (.inl 30)), some (.inl x), some (.inl y), some (.inl p_), some (.inl r29), none, none, none, none, none], [.inl p_, .inr (.inl 37), .inl 2], n, D, (us (us s 3045 j7) 3045 ((max 0 (min (s 3017) j14)))), p, c)) rfl ?_
          refine tt_ildv (i := p_) (v := (c 37 (p_).toNat)) rfl rfl (by omega) rfl ?_
          show tt Zi d 173 (166, [some (.inr (.inl 30)), some (.inl x), some (.inl y), some (.inl p_), some (.inl r29), none, none, none, none, none], [.inl (c 37 (p_).toNat), .inl 2], n, D, (us (us s 3045 j7) 3045 ((max 0 (min (s 3017) j14)))), p, c) _
          have b120 : -2147483648 ≤ (c 37 (p_).toNat) ∧ (c 37 (p_).toNat) ≤ 2147483647 := hC 37 _
          refine tt_k 4 (S' := (172, [some (.inr (.inl 30)), some (.inl x), some (.inl y), some (.inl p_), some (.inl r29), none, none, none, none, none], [.inl p_, .inr (.inl 39), .inl ((2 * (c 37 (p_).toNat)))], n, D, (us (us s 3045 j7) 3045 ((max 0 (min (s 3017) j14)))), p, c)) rfl ?_
          refine tt_ildv (i := p_) (v := (c 39 (p_).toNat)) rfl rfl (by omega) rfl ?_
          show tt Zi d 173 (173, [some (.inr (.inl 30)), some (.inl x), some (.inl y), some (.inl p_), some (.inl r29), none, none, none, none, none], [.inl (c 39 (p_).toNat), .inl ((2 * (c 37 (p_).toNat)))], n, D, (us (us s 3045 j7) 3045 ((max 0 (min (s 3017) j14)))), p, c) _
          refine tt_k 1 (S' := (174, [some (.inr (.inl 30)), some (.inl x), some (.inl y), some (.inl p_), some (.inl r29), none, none, none, none, none], [.inl ((-(c 39 (p_).toNat))), .inl ((2 * (c 37 (p_).toNat)))], n, D, (us (us s 3045 j7) 3045 ((max 0 (min (s 3017) j14)))), p, c)) rfl ?_
          refine tb_gt (x := (2 * (c 37 (p_).toNat))) (y := (-(c 39 (p_).toNat))) rfl rfl (by omega) (fun h121 => ?_) (fun h121 => ?_)
          · show tt Zi d 173 (181, [some (.inr (.inl 30)), some (.inl x), some (.inl y), some (.inl p_), some (.inl r29), none, none, none, none, none], [], n, D, (us (us s 3045 j7) 3045 ((max 0 (min (s 3017) j14)))), p, c) _
            refine tt_k 1 (S' := (182, [some (.inr (.inl 30)), some (.inl x), some (.inl y), some (.inl p_), some (.inl r29), none, none, none, none, none], [.inl 0], n, D, (us (us s 3045 j7) 3045 ((max 0 (min (s 3017) j14)))), p, c)) rfl ?_
            exact K35 0  (by omega) (by first | rw [if_pos (by omega)] | rw [if_neg (by omega)]) (trivial)
          · show tt Zi d 173 (177, [some (.inr (.inl 30)), some (.inl x), some (.inl y), some (.inl p_), some (.inl r29), none, none, none, none, none], [], n, D, (us (us s 3045 j7) 3045 ((max 0 (min (s 3017) j14)))), p, c) _
            refine tt_k 2 (S' := (182, [some (.inr (.inl 30)), some (.inl x), some (.inl y), some (.inl p_), some (.inl r29), none, none, none, none, none], [.inl 1], n, D, (us (us s 3045 j7) 3045 ((max 0 (min (s 3017) j14)))), p, c)) rfl ?_
            exact K35 1  (by omega) (by first | rw [if_pos (by omega)] | rw [if_neg (by omega)]) (trivial)
    refine tz_eq (x := (s 3046)) rfl rfl (by omega) (fun h122 => ?_) (fun h122 => ?_)
    · show tt Zi d 173 (109, [some (.inr (.inl 30)), some (.inl x), some (.inl y), some (.inl p_), none, none, none, none, none, none], [.inl (s 3017), .inl 0, .inr (.inl 30)], n, D, (us s 3045 j7), p, c) _
      refine tt_k 5 (S' := (118, [some (.inr (.inl 30)), some (.inl x), some (.inl y), some (.inl p_), none, none, none, none, none, none], [.inl p_, .inr (.inl 38), .inl j7, .inl (s 3017), .inl 0, .inr (.inl 30)], n, D, (us s 3045 j7), p, c)) rfl ?_
      refine tt_ildv (i := p_) (v := (c 38 (p_).toNat)) rfl rfl (by omega) rfl ?_
      show tt Zi d 173 (119, [some (.inr (.inl 30)), some (.inl x), some (.inl y), some (.inl p_), none, none, none, none, none, none], [.inl (c 38 (p_).toNat), .inl j7, .inl (s 3017), .inl 0, .inr (.inl 30)], n, D, (us s 3045 j7), p, c) _
      have b123 : -2147483648 ≤ (c 38 (p_).toNat) ∧ (c 38 (p_).toNat) ≤ 2147483647 := hC 38 _
      refine tt_k 1 (S' := (120, [some (.inr (.inl 30)), some (.inl x), some (.inl y), some (.inl p_), none, none, none, none, none, none], [.inl ((j7 + (c 38 (p_).toNat))), .inl (s 3017), .inl 0, .inr (.inl 30)], n, D, (us s 3045 j7), p, c)) rfl ?_
      exact K15 ((j7 + (c 38 (p_).toNat)))  (by omega) (by (repeat' split) <;> omega) (by omega) (trivial)
    · show tt Zi d 173 (95, [some (.inr (.inl 30)), some (.inl x), some (.inl y), some (.inl p_), none, none, none, none, none, none], [.inl (s 3017), .inl 0, .inr (.inl 30)], n, D, (us s 3045 j7), p, c) _
      refine tt_k 5 (S' := (104, [some (.inr (.inl 30)), some (.inl x), some (.inl y), some (.inl p_), none, none, none, none, none, none], [.inl p_, .inr (.inl 38), .inl j7, .inl (s 3017), .inl 0, .inr (.inl 30)], n, D, (us s 3045 j7), p, c)) rfl ?_
      refine tt_ildv (i := p_) (v := (c 38 (p_).toNat)) rfl rfl (by omega) rfl ?_
      show tt Zi d 173 (105, [some (.inr (.inl 30)), some (.inl x), some (.inl y), some (.inl p_), none, none, none, none, none, none], [.inl (c 38 (p_).toNat), .inl j7, .inl (s 3017), .inl 0, .inr (.inl 30)], n, D, (us s 3045 j7), p, c) _
      have b124 : -2147483648 ≤ (c 38 (p_).toNat) ∧ (c 38 (p_).toNat) ≤ 2147483647 := hC 38 _
      refine tt_k 2 (S' := (120, [some (.inr (.inl 30)), some (.inl x), some (.inl y), some (.inl p_), none, none, none, none, none, none], [.inl ((j7 - (c 38 (p_).toNat))), .inl (s 3017), .inl 0, .inr (.inl 30)], n, D, (us s 3045 j7), p, c)) rfl ?_
      exact K15 ((j7 - (c 38 (p_).toNat)))  (by omega) (by (repeat' split) <;> omega) (by omega) (trivial)
  refine tb_lt (x := (s 3043)) (y := (max (s 3041) (s 3042))) rfl rfl (by omega) (fun h125 => ?_) (fun h125 => ?_)
  · show tt Zi d 173 (33, [some (.inr (.inl 30)), some (.inl x), some (.inl y), some (.inl p_), none, none, none, none, none, none], [.inr (.inl 30)], n, D, s, p, c) _
    refine tt_k 6 (S' := (45, [some (.inr (.inl 30)), some (.inl x), some (.inl y), some (.inl p_), none, none, none, none, none, none], [.inl (s 3042), .inl (s 3041), .inl (s 3043), .inr (.inl 30)], n, D, s, p, c)) rfl ?_
    refine tt_cl (by omega) rfl (k_less (Zi := Zi) (D := D) (s := s) (p := p) (c := c) (by omega) hS hC (s 3041) (s 3042) (by omega) (by omega)) ?_
    rintro _ _ ⟨r126, rfl, rfl, b127, k128⟩
    show tt Zi d 173 (48, [some (.inr (.inl 30)), some (.inl x), some (.inl y), some (.inl p_), none, none, none, none, none, none], [.inl r126, .inl (s 3043), .inr (.inl 30)], n, D, s, p, c) _
    replace k128 : r126 = min (s 3041) (s 3042) := k128
    subst k128
    show tt Zi d 173 (48, [some (.inr (.inl 30)), some (.inl x), some (.inl y), some (.inl p_), none, none, none, none, none, none], [.inl (min (s 3041) (s 3042)), .inl (s 3043), .inr (.inl 30)], n, D, s, p, c) _
    refine tb_gt (x := (s 3043)) (y := (min (s 3041) (s 3042))) rfl rfl (by omega) (fun h129 => ?_) (fun h129 => ?_)
    · show tt Zi d 173 (65, [some (.inr (.inl 30)), some (.inl x), some (.inl y), some (.inl p_), none, none, none, none, none, none], [.inr (.inl 30)], n, D, s, p, c) _
      refine tt_k 8 (S' := (79, [some (.inr (.inl 30)), some (.inl x), some (.inl y), some (.inl p_), none, none, none, none, none, none], [.inl ((((s 3041) + (s 3042)) - (s 3043))), .inr (.inl 30)], n, D, s, p, c)) rfl ?_
      exact K8 ((((s 3041) + (s 3042)) - (s 3043)))  (by omega) (by unfold fP; (repeat' split) <;> omega) (by omega) (trivial)
    · show tt Zi d 173 (51, [some (.inr (.inl 30)), some (.inl x), some (.inl y), some (.inl p_), none, none, none, none, none, none], [.inr (.inl 30)], n, D, s, p, c) _
      refine tt_k 4 (S' := (59, [some (.inr (.inl 30)), some (.inl x), some (.inl y), some (.inl p_), none, none, none, none, none, none], [.inl (s 3042), .inl (s 3041), .inr (.inl 30)], n, D, s, p, c)) rfl ?_
      refine tt_cl (by omega) rfl (k_more (Zi := Zi) (D := D) (s := s) (p := p) (c := c) (by omega) hS hC (s 3041) (s 3042) (by omega) (by omega)) ?_
      rintro _ _ ⟨r130, rfl, rfl, b131, k132⟩
      show tt Zi d 173 (62, [some (.inr (.inl 30)), some (.inl x), some (.inl y), some (.inl p_), none, none, none, none, none, none], [.inl r130, .inr (.inl 30)], n, D, s, p, c) _
      replace k132 : r130 = max (s 3041) (s 3042) := k132
      subst k132
      show tt Zi d 173 (62, [some (.inr (.inl 30)), some (.inl x), some (.inl y), some (.inl p_), none, none, none, none, none, none], [.inl (max (s 3041) (s 3042)), .inr (.inl 30)], n, D, s, p, c) _
      refine tt_k 1 (S' := (79, [some (.inr (.inl 30)), some (.inl x), some (.inl y), some (.inl p_), none, none, none, none, none, none], [.inl (max (s 3041) (s 3042)), .inr (.inl 30)], n, D, s, p, c)) rfl ?_
      exact K8 (max (s 3041) (s 3042))  (by omega) (by unfold fP; (repeat' split) <;> omega) (by omega) (trivial)
  · show tt Zi d 173 (19, [some (.inr (.inl 30)), some (.inl x), some (.inl y), some (.inl p_), none, none, none, none, none, none], [.inr (.inl 30)], n, D, s, p, c) _
    refine tt_k 4 (S' := (27, [some (.inr (.inl 30)), some (.inl x), some (.inl y), some (.inl p_), none, none, none, none, none, none], [.inl (s 3042), .inl (s 3041), .inr (.inl 30)], n, D, s, p, c)) rfl ?_
    refine tt_cl (by omega) rfl (k_less (Zi := Zi) (D := D) (s := s) (p := p) (c := c) (by omega) hS hC (s 3041) (s 3042) (by omega) (by omega)) ?_
    rintro _ _ ⟨r133, rfl, rfl, b134, k135⟩
    show tt Zi d 173 (30, [some (.inr (.inl 30)), some (.inl x), some (.inl y), some (.inl p_), none, none, none, none, none, none], [.inl r133, .inr (.inl 30)], n, D, s, p, c) _
    replace k135 : r133 = min (s 3041) (s 3042) := k135
    subst k135
    show tt Zi d 173 (30, [some (.inr (.inl 30)), some (.inl x), some (.inl y), some (.inl p_), none, none, none, none, none, none], [.inl (min (s 3041) (s 3042)), .inr (.inl 30)], n, D, s, p, c) _
    refine tt_k 1 (S' := (79, [some (.inr (.inl 30)), some (.inl x), some (.inl y), some (.inl p_), none, none, none, none, none, none], [.inl (min (s 3041) (s 3042)), .inr (.inl 30)], n, D, s, p, c)) rfl ?_
    exact K8 (min (s 3041) (s 3042))  (by omega) (by unfold fP; (repeat' split) <;> omega) (by omega) (trivial)
