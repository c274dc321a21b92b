/-! the reference reads a sample of a place, exactly -/
theorem num_rr {A : TN} {d : RDT} {a b l k zm wb : Int} (h : rdRdy A d = some (a, b, l)) (hl : 1 ≤ l) : rdNum A k zm wb (a, b, l) = rdNum A k zm wb d := by
  unfold rdNum
  rw [rdZ_rr h hl]
set_option maxRecDepth 100000 in
set_option maxHeartbeats 4000000 in
theorem v_reg {Zi : Nat → Option (Nat × (Nat → Int))} {d n : Nat} {D : Nat → Nat × Nat} {s : Nat → Int} {p : Nat → Nat} {c : Nat → Nat → Int} (hd : 5 ≤ d) (hS : bS s) (hC : bC D c) (t : Int) (Z : Nat → Int) (M : MT) (A : TN) (x : Int) (y : Int) (p_ : Int) (b_x : 0 ≤ x ∧ x ≤ 63) (b_y : 0 ≤ y ∧ y ≤ 63) (b_p_ : 0 ≤ p_ ∧ p_ ≤ 364) (hp0 : mv s) (hp1 : s 3036 = 0 ∧ s 3050 = 0 ∧ x < s 3037) (hp2 : (0 ≤ s 3041 ∧ s 3041 ≤ s 3017) ∧ (0 ≤ s 3042 ∧ s 3042 ≤ s 3017) ∧ (0 ≤ s 3043 ∧ s 3043 ≤ s 3017)) (hp3 : pl s t c) (hp4 : 0 ≤ t ∧ t ≤ 4095) (hp5 : zq Z (s 3017) (s 3018) (s 3019) (s 3020) (s 3021) (s 3022) (s 3023) (s 3024) (s 3025) (s 3026)) (hp6 : mrl M (c 36) (c 37) (c 38) (c 39)) (hp7 : tpl A (s 3014) (c 34)) (hp8 : (0 ≤ s 3054 ∧ s 3054 ≤ 8) ∧ (0 ≤ s 3052 ∧ s 3052 ≤ 255)) (hp9 : s 3049 ≤ s 3014) : tt Zi d 173 (0, [some (.inr (.inl 30)), some (.inl x), some (.inl y), some (.inl p_), none, none, none, none, none, none], [], n, D, s, p, c) (fun R H => ∃ (s' : Nat → Int) (c' : Nat → Nat → Int), R = .inl none ∧ H = (n, D, s', p, c') ∧ bS s' ∧ bC D c' ∧ fr s s' [3045, 3049, 3050, 3051, 3052, 3053, 3054] ∧ frc c c' [36, 37, 38, 39, 44] ∧ (s' 3050 = 0 → ∃ q, (rdNum A (ke (M 36 p_.toNat) (M 39 p_.toNat)) (Z 3026 - Z 3025 - 1) (Z 3025) (s 3049, s 3052, s 3054)) = some (q, s' 3049, s' 3052, s' 3054) ∧ (-(Z 3024 / 2) ≤ (eM q (oR Z p_.toNat M)) ∧ (eM q (oR Z p_.toNat M)) ≤ (Z 3024 - 1) / 2) ∧ mrl (mLrn Z M p_.toNat (eM q (oR Z p_.toNat M))) (c' 36) (c' 37) (c' 38) (c' 39) ∧ c' 44 = ua (c 44) (s 3039 + 64 * y + x).toNat (rR Z (gR Z (s 3041) (s 3042) (s 3043) (s 3046) p_.toNat M) (s 3046) (eM q (oR Z p_.toNat M)))) ∧ (s' 3050 ≠ 0 → rqN Z (fun q => (eM q (oR Z p_.toNat M))) (rdNum A (ke (M 36 p_.toNat) (M 39 p_.toNat)) (Z 3026 - Z 3025 - 1) (Z 3025) (s 3049, s 3052, s 3054))) ∧ (s' 3050 = 0 → (0 ≤ s' 3054 ∧ s' 3054 ≤ 8) ∧ (0 ≤ s' 3052 ∧ s' 3052 ≤ 255)) ∧ (s' 3050 = 0 → s' 3049 ≤ s 3014)) := by
  have mvx := mv_fx hp0
  have hi := hp3 (p_).toNat (by omega)
  have hb := pl_bd hp0 (by omega) hi
  have hzq := hp5
  obtain ⟨z0, z1, z2, z3, z4, z5, z6, z7, z8, z9⟩ := hzq
  have hM := hp6 (p_).toNat (by omega)
  have b1 : 0 ≤ (s 3049) ∧ (s 3049) ≤ 32769 := hS 3049
  have b2 : 0 ≤ (s 3052) ∧ (s 3052) ≤ 255 := hS 3052
  have b3 : 0 ≤ (s 3054) ∧ (s 3054) ≤ 8 := hS 3054
  have b4 : 0 ≤ (s 3014) ∧ (s 3014) ≤ 32768 := hS 3014
  have b5 : 0 ≤ (s 3050) ∧ (s 3050) ≤ 8 := hS 3050
  refine tt_k 7 (S' := (13, [some (.inr (.inl 30)), some (.inl x), some (.inl y), some (.inl p_), none, none, none, none, none, none], [.inl (s 3042), .inl (s 3041), .inl (s 3043), .inr (.inl 30)], n, D, s, p, c)) rfl ?_
  have b6 : 0 ≤ (s 3041) ∧ (s 3041) ≤ 65535 := hS 3041
  have b7 : 0 ≤ (s 3042) ∧ (s 3042) ≤ 65535 := hS 3042
  refine tt_cl (by omega) rfl (k_more (Zi := Zi) (D := D) (s := s) (p := p) (c := c) (by omega) hS hC (s 3041) (s 3042) (by omega) (by omega)) ?_
  rintro _ _ ⟨r8, rfl, rfl, b9, k10⟩
  show tt Zi d 173 (16, [some (.inr (.inl 30)), some (.inl x), some (.inl y), some (.inl p_), none, none, none, none, none, none], [.inl r8, .inl (s 3043), .inr (.inl 30)], n, D, s, p, c) _
  replace k10 : r8 = max (s 3041) (s 3042) := k10
  subst k10
  show tt Zi d 173 (16, [some (.inr (.inl 30)), some (.inl x), some (.inl y), some (.inl p_), none, none, none, none, none, none], [.inl (max (s 3041) (s 3042)), .inl (s 3043), .inr (.inl 30)], n, D, s, p, c) _
  have b11 : 0 ≤ (s 3043) ∧ (s 3043) ≤ 65535 := hS 3043
  have K13 : ∀ (j12 : Int) , (-2147483648 ≤ j12 ∧ j12 ≤ 2147483647) → (j12 = fP (s 3041) (s 3042) (s 3043)) → (-65535 ≤ j12 ∧ j12 ≤ 131070) → (True) → tt Zi d 173 (79, [some (.inr (.inl 30)), some (.inl x), some (.inl y), some (.inl p_), none, none, none, none, none, none], [.inl j12, .inr (.inl 30)], n, D, s, p, c) (fun R H => ∃ (s' : Nat → Int) (c' : Nat → Nat → Int), R = .inl none ∧ H = (n, D, s', p, c') ∧ bS s' ∧ bC D c' ∧ fr s s' [3045, 3049, 3050, 3051, 3052, 3053, 3054] ∧ frc c c' [36, 37, 38, 39, 44] ∧ (s' 3050 = 0 → ∃ q, (rdNum A (ke (M 36 p_.toNat) (M 39 p_.toNat)) (Z 3026 - Z 3025 - 1) (Z 3025) (s 3049, s 3052, s 3054)) = some (q, s' 3049, s' 3052, s' 3054) ∧ (-(Z 3024 / 2) ≤ (eM q (oR Z p_.toNat M)) ∧ (eM q (oR Z p_.toNat M)) ≤ (Z 3024 - 1) / 2) ∧ mrl (mLrn Z M p_.toNat (eM q (oR Z p_.toNat M))) (c' 36) (c' 37) (c' 38) (c' 39) ∧ c' 44 = ua (c 44) (s 3039 + 64 * y + x).toNat (rR Z (gR Z (s 3041) (s 3042) (s 3043) (s 3046) p_.toNat M) (s 3046) (eM q (oR Z p_.toNat M)))) ∧ (s' 3050 ≠ 0 → rqN Z (fun q => (eM q (oR Z p_.toNat M))) (rdNum A (ke (M 36 p_.toNat) (M 39 p_.toNat)) (Z 3026 - Z 3025 - 1) (Z 3025) (s 3049, s 3052, s 3054))) ∧ (s' 3050 = 0 → (0 ≤ s' 3054 ∧ s' 3054 ≤ 8) ∧ (0 ≤ s' 3052 ∧ s' 3052 ≤ 255)) ∧ (s' 3050 = 0 → s' 3049 ≤ s 3014)) := by
    intro j12 b15 b16 b17 hj14
    refine tt_k 7 (S' := (92, [some (.inr (.inl 30)), some (.inl x), some (.inl y), some (.inl p_), none, none, none, none, none, none], [.inl (s 3046), .inl (s 3017), .inl 0, .inr (.inl 30)], n, D, (us s 3045 j12), p, c)) rfl ?_
    have b18 : 0 ≤ (s 3046) ∧ (s 3046) ≤ 1 := hS 3046
    have K20 : ∀ (j19 : Int) , (-4294967296 ≤ j19 ∧ j19 ≤ 4294967295) → (j19 = (if s 3046 = 1 then j12 - c 38 (p_).toNat else j12 + c 38 (p_).toNat)) → (-70000 ≤ j19 ∧ j19 ≤ 140000) → (True) → tt Zi d 173 (120, [some (.inr (.inl 30)), some (.inl x), some (.inl y), some (.inl p_), none, none, none, none, none, none], [.inl j19, .inl (s 3017), .inl 0, .inr (.inl 30)], n, D, (us s 3045 j12), p, c) (fun R H => ∃ (s' : Nat → Int) (c' : Nat → Nat → Int), R = .inl none ∧ H = (n, D, s', p, c') ∧ bS s' ∧ bC D c' ∧ fr s s' [3045, 3049, 3050, 3051, 3052, 3053, 3054] ∧ frc c c' [36, 37, 38, 39, 44] ∧ (s' 3050 = 0 → ∃ q, (rdNum A (ke (M 36 p_.toNat) (M 39 p_.toNat)) (Z 3026 - Z 3025 - 1) (Z 3025) (s 3049, s 3052, s 3054)) = some (q, s' 3049, s' 3052, s' 3054) ∧ (-(Z 3024 / 2) ≤ (eM q (oR Z p_.toNat M)) ∧ (eM q (oR Z p_.toNat M)) ≤ (Z 3024 - 1) / 2) ∧ mrl (mLrn Z M p_.toNat (eM q (oR Z p_.toNat M))) (c' 36) (c' 37) (c' 38) (c' 39) ∧ c' 44 = ua (c 44) (s 3039 + 64 * y + x).toNat (rR Z (gR Z (s 3041) (s 3042) (s 3043) (s 3046) p_.toNat M) (s 3046) (eM q (oR Z p_.toNat M)))) ∧ (s' 3050 ≠ 0 → rqN Z (fun q => (eM q (oR Z p_.toNat M))) (rdNum A (ke (M 36 p_.toNat) (M 39 p_.toNat)) (Z 3026 - Z 3025 - 1) (Z 3025) (s 3049, s 3052, s 3054))) ∧ (s' 3050 = 0 → (0 ≤ s' 3054 ∧ s' 3054 ≤ 8) ∧ (0 ≤ s' 3052 ∧ s' 3052 ≤ 255)) ∧ (s' 3050 = 0 → s' 3049 ≤ s 3014)) := by
      intro j19 b22 b23 b24 hj21
      have b25 : 0 ≤ (s 3017) ∧ (s 3017) ≤ 65535 := hS 3017
      refine tt_cl (by omega) rfl (k_less (Zi := Zi) (D := D) (s := (us s 3045 j12)) (p := p) (c := c) (by omega) (bS_us hS (show -65535 ≤ j12 ∧ j12 ≤ 131070 by omega)) hC (s 3017) j19 (by omega) (by omega)) ?_
      rintro _ _ ⟨r26, rfl, rfl, b27, k28⟩
      show tt Zi d 173 (123, [some (.inr (.inl 30)), some (.inl x), some (.inl y), some (.inl p_), none, none, none, none, none, none], [.inl r26, .inl 0, .inr (.inl 30)], n, D, (us s 3045 j12), p, c) _
      replace k28 : r26 = min (s 3017) j19 := k28
      subst k28
      show tt Zi d 173 (123, [some (.inr (.inl 30)), some (.inl x), some (.inl y), some (.inl p_), none, none, none, none, none, none], [.inl (min (s 3017) j19), .inl 0, .inr (.inl 30)], n, D, (us s 3045 j12), p, c) _
      refine tt_cl (by omega) rfl (k_more (Zi := Zi) (D := D) (s := (us s 3045 j12)) (p := p) (c := c) (by omega) (bS_us hS (show -65535 ≤ j12 ∧ j12 ≤ 131070 by omega)) hC 0 (min (s 3017) j19) (by omega) (by omega)) ?_
      rintro _ _ ⟨r29, rfl, rfl, b30, k31⟩
      show tt Zi d 173 (126, [some (.inr (.inl 30)), some (.inl x), some (.inl y), some (.inl p_), none, none, none, none, none, none], [.inl r29, .inr (.inl 30)], n, D, (us s 3045 j12), p, c) _
      replace k31 : r29 = max 0 (min (s 3017) j19) := k31
      subst k31
      show tt Zi d 173 (126, [some (.inr (.inl 30)), some (.inl x), some (.inl y), some (.inl p_), none, none, none, none, none, none], [.inl ((max 0 (min (s 3017) j19))), .inr (.inl 30)], n, D, (us s 3045 j12), p, c) _
      refine tt_k 1 (S' := (129, [some (.inr (.inl 30)), some (.inl x), some (.inl y), some (.inl p_), none, none, none, none, none, none], [], n, D, (us (us s 3045 j12) 3045 ((max 0 (min (s 3017) j19)))), p, c)) rfl ?_
      have hG : (max 0 (min (s 3017) j19)) = gR Z (s 3041) (s 3042) (s 3043) (s 3046) p_.toNat M := by unfold gR fW; rw [← z0, ← hM.2.2.1, ← b16, b23]
      refine tt_k 4 (S' := (135, [some (.inr (.inl 30)), some (.inl x), some (.inl y), some (.inl p_), none, none, none, none, none, none], [.inl p_, .inr (.inl 36), .inr (.inl 30)], n, D, (us (us s 3045 j12) 3045 ((max 0 (min (s 3017) j19)))), p, c)) rfl ?_
      refine tt_ildv (i := p_) (v := (c 36 (p_).toNat)) rfl rfl (by omega) rfl ?_
      show tt Zi d 173 (136, [some (.inr (.inl 30)), some (.inl x), some (.inl y), some (.inl p_), none, none, none, none, none, none], [.inl (c 36 (p_).toNat), .inr (.inl 30)], n, D, (us (us s 3045 j12) 3045 ((max 0 (min (s 3017) j19)))), p, c) _
      have b32 : -2147483648 ≤ (c 36 (p_).toNat) ∧ (c 36 (p_).toNat) ≤ 2147483647 := hC 36 _
      refine tt_k 3 (S' := (141, [some (.inr (.inl 30)), some (.inl x), some (.inl y), some (.inl p_), none, none, none, none, none, none], [.inl p_, .inr (.inl 39), .inl (c 36 (p_).toNat), .inr (.inl 30)], n, D, (us (us s 3045 j12) 3045 ((max 0 (min (s 3017) j19)))), p, c)) rfl ?_
      refine tt_ildv (i := p_) (v := (c 39 (p_).toNat)) rfl rfl (by omega) rfl ?_
      show tt Zi d 173 (142, [some (.inr (.inl 30)), some (.inl x), some (.inl y), some (.inl p_), none, none, none, none, none, none], [.inl (c 39 (p_).toNat), .inl (c 36 (p_).toNat), .inr (.inl 30)], n, D, (us (us s 3045 j12) 3045 ((max 0 (min (s 3017) j19)))), p, c) _
      have b33 : -2147483648 ≤ (c 39 (p_).toNat) ∧ (c 39 (p_).toNat) ≤ 2147483647 := hC 39 _
      refine tt_cl (by omega) rfl (k_exponent (Zi := Zi) (D := D) (s := (us (us s 3045 j12) 3045 ((max 0 (min (s 3017) j19))))) (p := p) (c := c) (by omega) (bS_us (bS_us hS (show -65535 ≤ j12 ∧ j12 ≤ 131070 by omega)) (show -65535 ≤ (max 0 (min (s 3017) j19)) ∧ (max 0 (min (s 3017) j19)) ≤ 131070 by omega)) hC (c 36 (p_).toNat) (c 39 (p_).toNat) (by omega) (by omega)) ?_
      rintro _ _ ⟨r34, rfl, rfl, b35, k36, k37⟩
      show tt Zi d 173 (145, [some (.inr (.inl 30)), some (.inl x), some (.inl y), some (.inl p_), none, none, none, none, none, none], [.inl r34], n, D, (us (us s 3045 j12) 3045 ((max 0 (min (s 3017) j19)))), p, c) _
      replace k36 : (c 36 (p_).toNat) ≤ (c 39 (p_).toNat) * 2 ^ r34.toNat := k36
      replace k37 : r34 = 0 ∨ (c 39 (p_).toNat) * 2 ^ (r34 - 1).toNat < (c 36 (p_).toNat) := k37
      have hke : r34 = ke (c 36 (p_).toNat) (c 39 (p_).toNat) := ke_eq (by omega) (by omega) k36 k37
      have hkq := k_le_q (s := s) (t := t) (c := c) (i := (p_).toNat) (S := (c 36 (p_).toNat)) (k := r34) hp0 hi (by omega) (by omega) k37
      clear k36 k37
      refine tt_k 3 (S' := (151, [some (.inr (.inl 30)), some (.inl x), some (.inl y), some (.inl p_), some (.inl r34), none, none, none, none, none], [.inl (s 3018)], n, D, (us (us s 3045 j12) 3045 ((max 0 (min (s 3017) j19)))), p, c)) rfl ?_
      have b38 : -2147483648 ≤ (s 3018) ∧ (s 3018) ≤ 2147483647 := hS 3018
      have K40 : ∀ (j39 : Int) , (0 ≤ j39 ∧ j39 ≤ 1) → (j39 = (if s 3018 = 0 ∧ r34 = 0 ∧ 2 * c 37 (p_).toNat ≤ -(c 39 (p_).toNat) then 1 else 0)) → (True) → tt Zi d 173 (182, [some (.inr (.inl 30)), some (.inl x), some (.inl y), some (.inl p_), some (.inl r34), none, none, none, none, none], [.inl j39], n, D, (us (us s 3045 j12) 3045 ((max 0 (min (s 3017) j19)))), p, c) (fun R H => ∃ (s' : Nat → Int) (c' : Nat → Nat → Int), R = .inl none ∧ H = (n, D, s', p, c') ∧ bS s' ∧ bC D c' ∧ fr s s' [3045, 3049, 3050, 3051, 3052, 3053, 3054] ∧ frc c c' [36, 37, 38, 39, 44] ∧ (s' 3050 = 0 → ∃ q, (rdNum A (ke (M 36 p_.toNat) (M 39 p_.toNat)) (Z 3026 - Z 3025 - 1) (Z 3025) (s 3049, s 3052, s 3054)) = some (q, s' 3049, s' 3052, s' 3054) ∧ (-(Z 3024 / 2) ≤ (eM q (oR Z p_.toNat M)) ∧ (eM q (oR Z p_.toNat M)) ≤ (Z 3024 - 1) / 2) ∧ mrl (mLrn Z M p_.toNat (eM q (oR Z p_.toNat M))) (c' 36) (c' 37) (c' 38) (c' 39) ∧ c' 44 = ua (c 44) (s 3039 + 64 * y + x).toNat (rR Z (gR Z (s 3041) (s 3042) (s 3043) (s 3046) p_.toNat M) (s 3046) (eM q (oR Z p_.toNat M)))) ∧ (s' 3050 ≠ 0 → rqN Z (fun q => (eM q (oR Z p_.toNat M))) (rdNum A (ke (M 36 p_.toNat) (M 39 p_.toNat)) (Z 3026 - Z 3025 - 1) (Z 3025) (s 3049, s 3052, s 3054))) ∧ (s' 3050 = 0 → (0 ≤ s' 3054 ∧ s' 3054 ≤ 8) ∧ (0 ≤ s' 3052 ∧ s' 3052 ≤ 255)) ∧ (s' 3050 = 0 → s' 3049 ≤ s 3014)) := by
        intro j39 b42 b43 hj41
        refine tt_k 5 (S' := (191, [some (.inr (.inl 30)), some (.inl x), some (.inl y), some (.inl p_), some (.inl r34), some (.inl j39), some (.inl 0), none, none, none], [.inl (s 3036)], n, D, (us (us s 3045 j12) 3045 ((max 0 (min (s 3017) j19)))), p, c)) rfl ?_
        have b44 : 0 ≤ (s 3036) ∧ (s 3036) ≤ 1 := hS 3036
        refine tz_eq (x := (s 3036)) rfl rfl (by omega) (fun h45 => ?_) (fun h45 => ?_)
        · show tt Zi d 173 (281, [some (.inr (.inl 30)), some (.inl x), some (.inl y), some (.inl p_), some (.inl r34), some (.inl j39), some (.inl 0), none, none, none], [], n, D, (us (us s 3045 j12) 3045 ((max 0 (min (s 3017) j19)))), p, c) _
          refine tt_k 1 (S' := (282, [some (.inr (.inl 30)), some (.inl x), some (.inl y), some (.inl p_), some (.inl r34), some (.inl j39), some (.inl 0), none, none, none], [.inr (.inl 30)], n, D, (us (us s 3045 j12) 3045 ((max 0 (min (s 3017) j19)))), p, c)) rfl ?_
          refine tt_cl (by omega) rfl (y_ready (Zi := Zi) (D := D) (s := (us (us s 3045 j12) 3045 ((max 0 (min (s 3017) j19))))) (p := p) (c := c) (by omega) (bS_us (bS_us hS (show -65535 ≤ j12 ∧ j12 ≤ 131070 by omega)) (show -65535 ≤ (max 0 (min (s 3017) j19)) ∧ (max 0 (min (s 3017) j19)) ≤ 131070 by omega)) hC A hp7 (show (s 3050) = 0 by omega) (show (0 ≤ (s 3054) ∧ (s 3054) ≤ 8) ∧ (0 ≤ (s 3052) ∧ (s 3052) ≤ 255) by omega) (show (s 3049) ≤ (s 3014) by omega)) ?_
          rintro _ _ ⟨s46, rfl, rfl, hS46, f47, k48, k49, k50, k51⟩
          have hc52 : mv s46 := mv_fr f47 (by decide) (mv_us (by decide) (mv_us (by decide) hp0))
          show tt Zi d 173 (285, [some (.inr (.inl 30)), some (.inl x), some (.inl y), some (.inl p_), some (.inl r34), some (.inl j39), some (.inl 0), none, none, none], [], n, D, s46, p, c) _
          replace k48 : (s46 3050) = 0 → rdRdy A ((s 3049), (s 3052), (s 3054)) = some ((s46 3049), (s46 3052), (s46 3054)) := k48
          replace k49 : (s46 3050) ≠ 0 → rdRdy A ((s 3049), (s 3052), (s 3054)) = none := k49
          replace k50 : (s46 3050) = 0 → (1 ≤ (s46 3054) ∧ (s46 3054) ≤ 8) ∧ (0 ≤ (s46 3052) ∧ (s46 3052) ≤ 255) := k50
          replace k51 : (s46 3049) ≤ (s 3014) := k51
          have b53 : 0 ≤ (s46 3050) ∧ (s46 3050) ≤ 8 := hS46 3050
          have b54 : 0 ≤ (s46 3049) ∧ (s46 3049) ≤ 32769 := hS46 3049
          have b55 : 0 ≤ (s46 3052) ∧ (s46 3052) ≤ 255 := hS46 3052
          have b56 : 0 ≤ (s46 3054) ∧ (s46 3054) ≤ 8 := hS46 3054
          have e57 : s46 3039 = (s 3039) := (f47 3039 (by decide))
          have b58 : 0 ≤ (s46 3039) ∧ (s46 3039) ≤ 8192 := hS46 3039
          have b59 : 0 ≤ (s 3039) ∧ (s 3039) ≤ 8192 := hS 3039
          have e60 : s46 3017 = (s 3017) := (f47 3017 (by decide))
          have b61 : 0 ≤ (s46 3017) ∧ (s46 3017) ≤ 65535 := hS46 3017
          have e62 : s46 3024 = (s 3024) := (f47 3024 (by decide))
          have b63 : -2147483648 ≤ (s46 3024) ∧ (s46 3024) ≤ 2147483647 := hS46 3024
          have b64 : -2147483648 ≤ (s 3024) ∧ (s 3024) ≤ 2147483647 := hS 3024
          have e65 : s46 3025 = (s 3025) := (f47 3025 (by decide))
          have b66 : 0 ≤ (s46 3025) ∧ (s46 3025) ≤ 31 := hS46 3025
          have b67 : 0 ≤ (s 3025) ∧ (s 3025) ≤ 31 := hS 3025
          have e68 : s46 3026 = (s 3026) := (f47 3026 (by decide))
          have b69 : 0 ≤ (s46 3026) ∧ (s46 3026) ≤ 96 := hS46 3026
          have b70 : 0 ≤ (s 3026) ∧ (s 3026) ≤ 96 := hS 3026
          have e71 : s46 3037 = (s 3037) := (f47 3037 (by decide))
          have b72 : 0 ≤ (s46 3037) ∧ (s46 3037) ≤ 64 := hS46 3037
          have b73 : 0 ≤ (s 3037) ∧ (s 3037) ≤ 64 := hS 3037
          have e74 : s46 3045 = (max 0 (min (s 3017) j19)) := (f47 3045 (by decide))
          have b75 : -65535 ≤ (s46 3045) ∧ (s46 3045) ≤ 131070 := hS46 3045
          have e76 : s46 3046 = (s 3046) := (f47 3046 (by decide))
          have b77 : 0 ≤ (s46 3046) ∧ (s46 3046) ≤ 1 := hS46 3046
          have e78 : s46 3014 = (s 3014) := (f47 3014 (by decide))
          have b79 : 0 ≤ (s46 3014) ∧ (s46 3014) ≤ 32768 := hS46 3014
          have e80 : s46 3022 = (s 3022) := (f47 3022 (by decide))
          have b81 : 0 ≤ (s46 3022) ∧ (s46 3022) ≤ 65535 := hS46 3022
          have b82 : 0 ≤ (s 3022) ∧ (s 3022) ≤ 65535 := hS 3022
          have e83 : s46 3023 = (s 3023) := (f47 3023 (by decide))
          have b84 : -2147483648 ≤ (s46 3023) ∧ (s46 3023) ≤ 2147483647 := hS46 3023
          have b85 : -2147483648 ≤ (s 3023) ∧ (s 3023) ≤ 2147483647 := hS 3023
          have e86 : s46 3018 = (s 3018) := (f47 3018 (by decide))
          have b87 : -2147483648 ≤ (s46 3018) ∧ (s46 3018) ≤ 2147483647 := hS46 3018
          have e88 : s46 3036 = (s 3036) := (f47 3036 (by decide))
          have b89 : 0 ≤ (s46 3036) ∧ (s46 3036) ≤ 1 := hS46 3036
          have hx90 : zq Z (s46 3017) (s46 3018) (s46 3019) (s46 3020) (s46 3021) (s46 3022) (s46 3023) (s46 3024) (s46 3025) (s46 3026) := by rw [f47 3017 (by decide), f47 3018 (by decide), f47 3019 (by decide), f47 3020 (by decide), f47 3021 (by decide), f47 3022 (by decide), f47 3023 (by decide), f47 3024 (by decide), f47 3025 (by decide), f47 3026 (by decide)]; exact hp5
          have hx91 : tpl A (s46 3014) (c 34) := by rw [f47 3014 (by decide)]; exact hp7
          have hor : j39 = (oR Z p_.toNat M) := by unfold oR; rw [← hM.1, ← hM.2.1, ← hM.2.2.2, ← hke, ← z1]; exact b43
          have hkr : r34 = (ke (M 36 p_.toNat) (M 39 p_.toNat)) := by rw [← hM.1, ← hM.2.2.2]; exact hke
          by_cases hf1 : s46 3050 = 0
          · skip
            refine tt_k 7 (S' := (298, [some (.inr (.inl 30)), some (.inl x), some (.inl y), some (.inl p_), some (.inl r34), some (.inl j39), some (.inl 0), some (.inl (s46 3053)), none, none], [.inl (s46 3026), .inl r34, .inr (.inl 30)], n, D, s46, p, c)) rfl ?_
            refine tt_cl (by omega) rfl (y_number (Zi := Zi) (D := D) (s := s46) (p := p) (c := c) (by omega) hS46 hC A r34 (s46 3026) (by omega) (by omega) hx91 (show (s46 3050) = 0 by omega) (show (0 ≤ (s46 3054) ∧ (s46 3054) ≤ 8) ∧ (0 ≤ (s46 3052) ∧ (s46 3052) ≤ 255) by omega) (show (s46 3049) ≤ (s46 3014) by omega) (show 0 ≤ ((s46 3026) - (s46 3025) - 1) ∧ ((s46 3026) - (s46 3025) - 1) ≤ 63 ∧ 0 ≤ (s46 3025) ∧ (s46 3025) ≤ 16 by omega)) ?_
            rintro _ _ ⟨s92, r93, rfl, rfl, hS92, f94, b95, k96, k97, k98, k99⟩
            have hc100 : mv s92 := mv_fr f94 (by decide) hc52
            show tt Zi d 173 (301, [some (.inr (.inl 30)), some (.inl x), some (.inl y), some (.inl p_), some (.inl r34), some (.inl j39), some (.inl 0), some (.inl (s46 3053)), none, none], [.inl r93], n, D, s92, p, c) _
            replace k96 : (s92 3050) = 0 → rdNum A r34 ((s46 3026) - (s46 3025) - 1) ((s46 3025)) ((s46 3049), (s46 3052), (s46 3054)) = some (r93, (s92 3049), (s92 3052), (s92 3054)) := k96
            replace k97 : (s92 3050) ≠ 0 → rdNum A r34 ((s46 3026) - (s46 3025) - 1) ((s46 3025)) ((s46 3049), (s46 3052), (s46 3054)) = none := k97
            replace k98 : (s92 3050) = 0 → (0 ≤ (s92 3054) ∧ (s92 3054) ≤ 8) ∧ (0 ≤ (s92 3052) ∧ (s92 3052) ≤ 255) := k98
            replace k99 : (s92 3049) ≤ (s46 3014) := k99
            have b101 : 0 ≤ (s92 3050) ∧ (s92 3050) ≤ 8 := hS92 3050
            have b102 : 0 ≤ (s92 3049) ∧ (s92 3049) ≤ 32769 := hS92 3049
            have b103 : 0 ≤ (s92 3052) ∧ (s92 3052) ≤ 255 := hS92 3052
            have b104 : 0 ≤ (s92 3054) ∧ (s92 3054) ≤ 8 := hS92 3054
            have e105 : s92 3039 = (s46 3039) := (f94 3039 (by decide))
            have b106 : 0 ≤ (s92 3039) ∧ (s92 3039) ≤ 8192 := hS92 3039
            have e107 : s92 3017 = (s46 3017) := (f94 3017 (by decide))
            have b108 : 0 ≤ (s92 3017) ∧ (s92 3017) ≤ 65535 := hS92 3017
            have e109 : s92 3024 = (s46 3024) := (f94 3024 (by decide))
            have b110 : -2147483648 ≤ (s92 3024) ∧ (s92 3024) ≤ 2147483647 := hS92 3024
            have e111 : s92 3025 = (s46 3025) := (f94 3025 (by decide))
            have b112 : 0 ≤ (s92 3025) ∧ (s92 3025) ≤ 31 := hS92 3025
            have e113 : s92 3026 = (s46 3026) := (f94 3026 (by decide))
            have b114 : 0 ≤ (s92 3026) ∧ (s92 3026) ≤ 96 := hS92 3026
            have e115 : s92 3037 = (s46 3037) := (f94 3037 (by decide))
            have b116 : 0 ≤ (s92 3037) ∧ (s92 3037) ≤ 64 := hS92 3037
            have e117 : s92 3045 = (s46 3045) := (f94 3045 (by decide))
            have b118 : -65535 ≤ (s92 3045) ∧ (s92 3045) ≤ 131070 := hS92 3045
            have e119 : s92 3046 = (s46 3046) := (f94 3046 (by decide))
            have b120 : 0 ≤ (s92 3046) ∧ (s92 3046) ≤ 1 := hS92 3046
            have e121 : s92 3014 = (s46 3014) := (f94 3014 (by decide))
            have b122 : 0 ≤ (s92 3014) ∧ (s92 3014) ≤ 32768 := hS92 3014
            have e123 : s92 3022 = (s46 3022) := (f94 3022 (by decide))
            have b124 : 0 ≤ (s92 3022) ∧ (s92 3022) ≤ 65535 := hS92 3022
            have e125 : s92 3023 = (s46 3023) := (f94 3023 (by decide))
            have b126 : -2147483648 ≤ (s92 3023) ∧ (s92 3023) ≤ 2147483647 := hS92 3023
            have e127 : s92 3018 = (s46 3018) := (f94 3018 (by decide))
            have b128 : -2147483648 ≤ (s92 3018) ∧ (s92 3018) ≤ 2147483647 := hS92 3018
            have e129 : s92 3036 = (s46 3036) := (f94 3036 (by decide))
            have b130 : 0 ≤ (s92 3036) ∧ (s92 3036) ≤ 1 := hS92 3036
            have hx131 : zq Z (s92 3017) (s92 3018) (s92 3019) (s92 3020) (s92 3021) (s92 3022) (s92 3023) (s92 3024) (s92 3025) (s92 3026) := by rw [f94 3017 (by decide), f94 3018 (by decide), f94 3019 (by decide), f94 3020 (by decide), f94 3021 (by decide), f94 3022 (by decide), f94 3023 (by decide), f94 3024 (by decide), f94 3025 (by decide), f94 3026 (by decide)]; exact hx90
            have hx132 : tpl A (s92 3014) (c 34) := by rw [f94 3014 (by decide)]; exact hx91
            have hq8 : s46 3025 = Z 3025 := by omega
            have hl8 : (s46 3026) = Z 3026 := by omega
            have hnr := num_rr (k := (ke (M 36 p_.toNat) (M 39 p_.toNat))) (zm := Z 3026 - Z 3025 - 1) (wb := Z 3025) (k48 hf1) (by have h := k50 hf1; omega)
            by_cases hf2 : s92 3050 = 0
            · skip
              have hnm : (rdNum A (ke (M 36 p_.toNat) (M 39 p_.toNat)) (Z 3026 - Z 3025 - 1) (Z 3025) (s 3049, s 3052, s 3054)) = some (r93, s92 3049, s92 3052, s92 3054) := by have h := k96 hf2; rw [hkr, hl8, hq8, hnr] at h; exact h
              refine tt_k 3 (S' := (306, [some (.inr (.inl 30)), some (.inl x), some (.inl y), some (.inl p_), some (.inl r34), some (.inl j39), some (.inl 0), some (.inl (s46 3053)), some (.inl r93), none], [.inl 2, .inl r93], n, D, s92, p, c)) rfl ?_
              refine tt_rmp (x := r93) (y := 2) rfl (by omega) ?_
              show tt Zi d 173 (307, [some (.inr (.inl 30)), some (.inl x), some (.inl y), some (.inl p_), some (.inl r34), some (.inl j39), some (.inl 0), some (.inl (s46 3053)), some (.inl r93), none], [.inl (r93 % 2)], n, D, s92, p, c) _
              refine tt_k 1 (S' := (308, [some (.inr (.inl 30)), some (.inl x), some (.inl y), some (.inl p_), some (.inl r34), some (.inl j39), some (.inl 0), some (.inl (s46 3053)), some (.inl r93), none], [.inl 1, .inl (r93 % 2)], n, D, s92, p, c)) rfl ?_
              have K134 : ∀ (j133 : Int) , (0 ≤ j133 ∧ j133 ≤ 1) → (j133 = r93 % 2) → (True) → tt Zi d 173 (316, [some (.inr (.inl 30)), some (.inl x), some (.inl y), some (.inl p_), some (.inl r34), some (.inl j39), some (.inl 0), some (.inl (s46 3053)), some (.inl r93), none], [.inl j133], n, D, s92, p, c) (fun R H => ∃ (s' : Nat → Int) (c' : Nat → Nat → Int), R = .inl none ∧ H = (n, D, s', p, c') ∧ bS s' ∧ bC D c' ∧ fr s s' [3045, 3049, 3050, 3051, 3052, 3053, 3054] ∧ frc c c' [36, 37, 38, 39, 44] ∧ (s' 3050 = 0 → ∃ q, (rdNum A (ke (M 36 p_.toNat) (M 39 p_.toNat)) (Z 3026 - Z 3025 - 1) (Z 3025) (s 3049, s 3052, s 3054)) = some (q, s' 3049, s' 3052, s' 3054) ∧ (-(Z 3024 / 2) ≤ (eM q (oR Z p_.toNat M)) ∧ (eM q (oR Z p_.toNat M)) ≤ (Z 3024 - 1) / 2) ∧ mrl (mLrn Z M p_.toNat (eM q (oR Z p_.toNat M))) (c' 36) (c' 37) (c' 38) (c' 39) ∧ c' 44 = ua (c 44) (s 3039 + 64 * y + x).toNat (rR Z (gR Z (s 3041) (s 3042) (s 3043) (s 3046) p_.toNat M) (s 3046) (eM q (oR Z p_.toNat M)))) ∧ (s' 3050 ≠ 0 → rqN Z (fun q => (eM q (oR Z p_.toNat M))) (rdNum A (ke (M 36 p_.toNat) (M 39 p_.toNat)) (Z 3026 - Z 3025 - 1) (Z 3025) (s 3049, s 3052, s 3054))) ∧ (s' 3050 = 0 → (0 ≤ s' 3054 ∧ s' 3054 ≤ 8) ∧ (0 ≤ s' 3052 ∧ s' 3052 ≤ 255)) ∧ (s' 3050 = 0 → s' 3049 ≤ s 3014)) := by
                intro j133 b136 b137 hj135
                refine tt_k 2 (S' := (320, [some (.inr (.inl 30)), some (.inl x), some (.inl y), some (.inl p_), some (.inl r34), some (.inl j39), some (.inl 0), some (.inl (s46 3053)), some (.inl r93), some (.inl j133)], [.inl j39], n, D, s92, p, c)) rfl ?_
                have K139 : ∀ (j138 : Int) , (-1073741824 ≤ j138 ∧ j138 ≤ 1073741824) → (j138 = eM r93 j39) → (True) → tt Zi d 173 (364, [some (.inr (.inl 30)), some (.inl x), some (.inl y), some (.inl p_), some (.inl r34), some (.inl j39), some (.inl 0), some (.inl (s46 3053)), some (.inl r93), some (.inl j133)], [.inl j138], n, D, s92, p, c) (fun R H => ∃ (s' : Nat → Int) (c' : Nat → Nat → Int), R = .inl none ∧ H = (n, D, s', p, c') ∧ bS s' ∧ bC D c' ∧ fr s s' [3045, 3049, 3050, 3051, 3052, 3053, 3054] ∧ frc c c' [36, 37, 38, 39, 44] ∧ (s' 3050 = 0 → ∃ q, (rdNum A (ke (M 36 p_.toNat) (M 39 p_.toNat)) (Z 3026 - Z 3025 - 1) (Z 3025) (s 3049, s 3052, s 3054)) = some (q, s' 3049, s' 3052, s' 3054) ∧ (-(Z 3024 / 2) ≤ (eM q (oR Z p_.toNat M)) ∧ (eM q (oR Z p_.toNat M)) ≤ (Z 3024 - 1) / 2) ∧ mrl (mLrn Z M p_.toNat (eM q (oR Z p_.toNat M))) (c' 36) (c' 37) (c' 38) (c' 39) ∧ c' 44 = ua (c 44) (s 3039 + 64 * y + x).toNat (rR Z (gR Z (s 3041) (s 3042) (s 3043) (s 3046) p_.toNat M) (s 3046) (eM q (oR Z p_.toNat M)))) ∧ (s' 3050 ≠ 0 → rqN Z (fun q => (eM q (oR Z p_.toNat M))) (rdNum A (ke (M 36 p_.toNat) (M 39 p_.toNat)) (Z 3026 - Z 3025 - 1) (Z 3025) (s 3049, s 3052, s 3054))) ∧ (s' 3050 = 0 → (0 ≤ s' 3054 ∧ s' 3054 ≤ 8) ∧ (0 ≤ s' 3052 ∧ s' 3052 ≤ 255)) ∧ (s' 3050 = 0 → s' 3049 ≤ s 3014)) := by
                  intro j138 b141 b142 hj140
                  refine tt_k 3 (S' := (370, [some (.inr (.inl 30)), some (.inl x), some (.inl y), some (.inl p_), some (.inl r34), some (.inl j39), some (.inl j138), some (.inl (s46 3053)), some (.inl r93), some (.inl j133)], [.inl (s92 3050)], n, D, s92, p, c)) rfl ?_
                  refine tz_ne (x := (s92 3050)) rfl rfl (by omega) (fun h143 => ?_) (fun h143 => ?_)
                  · exfalso; omega
                  · show tt Zi d 173 (373, [some (.inr (.inl 30)), some (.inl x), some (.inl y), some (.inl p_), some (.inl r34), some (.inl j39), some (.inl j138), some (.inl (s46 3053)), some (.inl r93), some (.inl j133)], [], n, D, s92, p, c) _
                    refine tt_k 2 (S' := (376, [some (.inr (.inl 30)), some (.inl x), some (.inl y), some (.inl p_), some (.inl r34), some (.inl j39), some (.inl j138), some (.inl (s46 3053)), some (.inl r93), some (.inl j133)], [.inl j138, .inr (.inl 30)], n, D, s92, p, c)) rfl ?_
                    refine tt_cl (by omega) rfl (k_isError (Zi := Zi) (D := D) (s := s92) (p := p) (c := c) (by omega) hS92 hC j138 (by omega) (show 1 ≤ (s92 3024) ∧ (s92 3024) ≤ 65536 by omega)) ?_
                    rintro _ _ ⟨r144, rfl, rfl, b145, k146⟩
                    show tt Zi d 173 (379, [some (.inr (.inl 30)), some (.inl x), some (.inl y), some (.inl p_), some (.inl r34), some (.inl j39), some (.inl j138), some (.inl (s46 3053)), some (.inl r93), some (.inl j133)], [.inl r144], n, D, s92, p, c) _
                    replace k146 : (r144 = 1 ∧ -((s92 3024) / 2) ≤ j138 ∧ j138 ≤ ((s92 3024) - 1) / 2) ∨ (r144 = 0 ∧ ¬ (-((s92 3024) / 2) ≤ j138 ∧ j138 ≤ ((s92 3024) - 1) / 2)) := k146
                    have hrg : s92 3024 = Z 3024 := by omega
                    have hyes : r144 ≠ 0 → -(Z 3024 / 2) ≤ (eM r93 (oR Z p_.toNat M)) ∧ (eM r93 (oR Z p_.toNat M)) ≤ (Z 3024 - 1) / 2 := fun h => by rw [← hor, ← b142, ← hrg]; omega
                    have hno : r144 = 0 → ¬ (-(Z 3024 / 2) ≤ (eM r93 (oR Z p_.toNat M)) ∧ (eM r93 (oR Z p_.toNat M)) ≤ (Z 3024 - 1) / 2) := fun h => by rw [← hor, ← b142, ← hrg]; omega
                    refine tz_ne (x := r144) rfl rfl (by omega) (fun h147 => ?_) (fun h147 => ?_)
                    · show tt Zi d 173 (390, [some (.inr (.inl 30)), some (.inl x), some (.inl y), some (.inl p_), some (.inl r34), some (.inl j39), some (.inl j138), some (.inl (s46 3053)), some (.inl r93), some (.inl j133)], [], n, D, s92, p, c) _
                      refine tt_k 2 (S' := (394, [some (.inr (.inl 30)), some (.inl x), some (.inl y), some (.inl p_), some (.inl r34), some (.inl j39), some (.inl j138), some (.inl (s46 3053)), some (.inl r93), some (.inl j133)], [.inl (s92 3050)], n, D, s92, p, c)) rfl ?_
                      refine tz_le (x := (s92 3050)) rfl rfl (by omega) (fun h148 => ?_) (fun h148 => ?_)
                      · show tt Zi d 173 (398, [some (.inr (.inl 30)), some (.inl x), some (.inl y), some (.inl p_), some (.inl r34), some (.inl j39), some (.inl j138), some (.inl (s46 3053)), some (.inl r93), some (.inl j133)], [], n, D, s92, p, c) _
                        refine tt_k 12 (S' := (416, [some (.inr (.inl 30)), some (.inl x), some (.inl y), some (.inl p_), some (.inl r34), some (.inl j39), some (.inl j138), some (.inl (s46 3053)), some (.inl r93), some (.inl j133)], [.inl j138, .inr (.inl 30), .inl ((((s92 3039) + (64 * y)) + x)), .inr (.inl 44)], n, D, s92, p, c)) rfl ?_
                        have b149 : -2147483648 ≤ (s92 3019) ∧ (s92 3019) ≤ 2147483647 := hS92 3019
                        have b150 : -2147483648 ≤ (s92 3020) ∧ (s92 3020) ≤ 2147483647 := hS92 3020
                        have b151 : -2147483648 ≤ (s92 3021) ∧ (s92 3021) ≤ 2147483647 := hS92 3021
                        refine tt_cl (by omega) rfl (y_sampleOf (Zi := Zi) (D := D) (s := s92) (p := p) (c := c) (by omega) hS92 hC Z j138 (by omega) hc100 (show -65535 ≤ (s92 3045) ∧ (s92 3045) ≤ 131070 by omega) hx131) ?_
                        rintro _ _ ⟨r152, rfl, rfl, b153, k154, k155⟩
                        show tt Zi d 173 (419, [some (.inr (.inl 30)), some (.inl x), some (.inl y), some (.inl p_), some (.inl r34), some (.inl j39), some (.inl j138), some (.inl (s46 3053)), some (.inl r93), some (.inl j133)], [.inl r152, .inl ((((s92 3039) + (64 * y)) + x)), .inr (.inl 44)], n, D, s92, p, c) _
                        replace k154 : 0 ≤ r152 ∧ r152 ≤ (s92 3017) := k154
                        replace k155 : r152 = rR Z ((s92 3045)) ((s92 3046)) j138 := k155
                        refine tt_ist (i := (((s92 3039) + (64 * y)) + x)) (x := r152) rfl rfl (by omega) ?_
                        show tt Zi d 173 (420, [some (.inr (.inl 30)), some (.inl x), some (.inl y), some (.inl p_), some (.inl r34), some (.inl j39), some (.inl j138), some (.inl (s46 3053)), some (.inl r93), some (.inl j133)], [], n, D, s92, p, (uc c 44 (ua (c 44) ((((s92 3039) + (64 * y)) + x)).toNat r152))) _
                        refine tt_k 3 (S' := (424, [some (.inr (.inl 30)), some (.inl x), some (.inl y), some (.inl p_), some (.inl r34), some (.inl j39), some (.inl j138), some (.inl (s46 3053)), some (.inl r93), some (.inl j133)], [.inl j138, .inl p_, .inr (.inl 30)], n, D, s92, p, (uc c 44 (ua (c 44) ((((s92 3039) + (64 * y)) + x)).toNat r152)))) rfl ?_
                        refine tt_cl (by omega) rfl (x_learn (Zi := Zi) (D := D) (s := s92) (p := p) (c := (uc c 44 (ua (c 44) ((((s92 3039) + (64 * y)) + x)).toNat r152))) (by omega) hS92 (bC_st hC (show 0 ≤ r152 ∧ r152 ≤ 65535 by omega)) Z M p_ j138 (by omega) (by omega) (show 1 ≤ (s92 3023) ∧ (s92 3023) ≤ 511 ∧ 3 ≤ (s92 3022) by omega) (show 0 ≤ (c 36) p_.toNat ∧ (c 36) p_.toNat ≤ 300000000 by omega) (show -65536 ≤ (c 37) p_.toNat ∧ (c 37) p_.toNat ≤ 65536 by omega) (show -128 ≤ (c 38) p_.toNat ∧ (c 38) p_.toNat ≤ 127 by omega) (show 1 ≤ (c 39) p_.toNat ∧ (c 39) p_.toNat ≤ 70000 by omega) hx131 hp6) ?_
                        rintro _ _ ⟨c156, rfl, rfl, hC156, g157, k158⟩
                        show tt Zi d 173 (427, [some (.inr (.inl 30)), some (.inl x), some (.inl y), some (.inl p_), some (.inl r34), some (.inl j39), some (.inl j138), some (.inl (s46 3053)), some (.inl r93), some (.inl j133)], [], n, D, s92, p, c156) _
                        replace k158 : mrl (mLrn Z M p_.toNat j138) ((c156 36)) ((c156 37)) ((c156 38)) ((c156 39)) := k158
                        have hx159 : tpl A (s92 3014) (c156 34) := by rw [g157 34 (by decide)]; exact hx132
                        have eG : s92 3045 = gR Z (s 3041) (s 3042) (s 3043) (s 3046) p_.toNat M := (f94 3045 (by decide)).trans ((f47 3045 (by decide)).trans hG)
                        have eT : s92 3046 = s 3046 := (f94 3046 (by decide)).trans (f47 3046 (by decide))
                        have eB : s92 3039 = s 3039 := (f94 3039 (by decide)).trans (f47 3039 (by decide))
                        have hje : j138 = (eM r93 (oR Z p_.toNat M)) := by rw [b142, hor]
                        exact tt_rtv rfl rfl ⟨s92, c156, rfl, rfl, hS92, hC156, (fr_tr (fr_tr (fr_us (by decide) (fr_us (by decide) fr_rf)) f47 (by decide)) f94 (by decide)), (frc_tr (frc_uc (by decide) frc_rf) g157 (by decide)), fun _ => ⟨r93, hnm, hyes (by omega), by have h := k158; rw [hje] at h; exact h, by have h44 := g157 44 (by decide); rw [h44]; show ua (c 44) _ _ = _; rw [k155, eG, eT, eB, hje]⟩, fun hf => absurd hf2 hf, by show (s92 3050) = 0 → (0 ≤ (s92 3054) ∧ (s92 3054) ≤ 8) ∧ (0 ≤ (s92 3052) ∧ (s92 3052) ≤ 255); omega, by show (s92 3050) = 0 → (s92 3049) ≤ s 3014; omega⟩
                      · exfalso; omega
                    · show tt Zi d 173 (382, [some (.inr (.inl 30)), some (.inl x), some (.inl y), some (.inl p_), some (.inl r34), some (.inl j39), some (.inl j138), some (.inl (s46 3053)), some (.inl r93), some (.inl j133)], [], n, D, s92, p, c) _
                      refine tt_k 3 (S' := (387, [some (.inr (.inl 30)), some (.inl x), some (.inl y), some (.inl p_), some (.inl r34), some (.inl j39), some (.inl j138), some (.inl (s46 3053)), some (.inl r93), some (.inl j133)], [.inl (s46 3053), .inl 7, .inr (.inl 30)], n, D, s92, p, c)) rfl ?_
                      have b160 : 0 ≤ (s46 3053) ∧ (s46 3053) ≤ 32768 := hS46 3053
                      refine tt_cl (by omega) rfl (k_fail (Zi := Zi) (D := D) (s := s92) (p := p) (c := c) (by omega) hS92 hC 7 (s46 3053) (by omega) (by omega)) ?_
                      rintro _ _ ⟨s161, rfl, rfl, hS161, f162, k163, k164⟩
                      have hc165 : mv s161 := mv_fr f162 (by decide) hc100
                      show tt Zi d 173 (390, [some (.inr (.inl 30)), some (.inl x), some (.inl y), some (.inl p_), some (.inl r34), some (.inl j39), some (.inl j138), some (.inl (s46 3053)), some (.inl r93), some (.inl j133)], [], n, D, s161, p, c) _
                      replace k163 : ((s92 3050) = 0 → (s161 3050) = 7 ∧ (s161 3051) = (s46 3053)) := k163
                      replace k164 : ((s92 3050) ≠ 0 → (s161 3050) = (s92 3050) ∧ (s161 3051) = (s92 3051)) := k164
                      have b166 : 0 ≤ (s161 3050) ∧ (s161 3050) ≤ 8 := hS161 3050
                      have b167 : -1 ≤ (s161 3051) ∧ (s161 3051) ≤ 32769 := hS161 3051
                      have b168 : -1 ≤ (s92 3051) ∧ (s92 3051) ≤ 32769 := hS92 3051
                      have e169 : s161 3039 = (s92 3039) := (f162 3039 (by decide))
                      have b170 : 0 ≤ (s161 3039) ∧ (s161 3039) ≤ 8192 := hS161 3039
                      have e171 : s161 3017 = (s92 3017) := (f162 3017 (by decide))
                      have b172 : 0 ≤ (s161 3017) ∧ (s161 3017) ≤ 65535 := hS161 3017
                      have e173 : s161 3024 = (s92 3024) := (f162 3024 (by decide))
                      have b174 : -2147483648 ≤ (s161 3024) ∧ (s161 3024) ≤ 2147483647 := hS161 3024
                      have e175 : s161 3025 = (s92 3025) := (f162 3025 (by decide))
                      have b176 : 0 ≤ (s161 3025) ∧ (s161 3025) ≤ 31 := hS161 3025
                      have e177 : s161 3026 = (s92 3026) := (f162 3026 (by decide))
                      have b178 : 0 ≤ (s161 3026) ∧ (s161 3026) ≤ 96 := hS161 3026
                      have e179 : s161 3037 = (s92 3037) := (f162 3037 (by decide))
                      have b180 : 0 ≤ (s161 3037) ∧ (s161 3037) ≤ 64 := hS161 3037
                      have e181 : s161 3045 = (s92 3045) := (f162 3045 (by decide))
                      have b182 : -65535 ≤ (s161 3045) ∧ (s161 3045) ≤ 131070 := hS161 3045
                      have e183 : s161 3046 = (s92 3046) := (f162 3046 (by decide))
                      have b184 : 0 ≤ (s161 3046) ∧ (s161 3046) ≤ 1 := hS161 3046
                      have e185 : s161 3049 = (s92 3049) := (f162 3049 (by decide))
                      have b186 : 0 ≤ (s161 3049) ∧ (s161 3049) ≤ 32769 := hS161 3049
                      have e187 : s161 3014 = (s92 3014) := (f162 3014 (by decide))
                      have b188 : 0 ≤ (s161 3014) ∧ (s161 3014) ≤ 32768 := hS161 3014
                      have e189 : s161 3022 = (s92 3022) := (f162 3022 (by decide))
                      have b190 : 0 ≤ (s161 3022) ∧ (s161 3022) ≤ 65535 := hS161 3022
                      have e191 : s161 3023 = (s92 3023) := (f162 3023 (by decide))
                      have b192 : -2147483648 ≤ (s161 3023) ∧ (s161 3023) ≤ 2147483647 := hS161 3023
                      have e193 : s161 3018 = (s92 3018) := (f162 3018 (by decide))
                      have b194 : -2147483648 ≤ (s161 3018) ∧ (s161 3018) ≤ 2147483647 := hS161 3018
                      have e195 : s161 3036 = (s92 3036) := (f162 3036 (by decide))
                      have b196 : 0 ≤ (s161 3036) ∧ (s161 3036) ≤ 1 := hS161 3036
                      have hx197 : zq Z (s161 3017) (s161 3018) (s161 3019) (s161 3020) (s161 3021) (s161 3022) (s161 3023) (s161 3024) (s161 3025) (s161 3026) := by rw [f162 3017 (by decide), f162 3018 (by decide), f162 3019 (by decide), f162 3020 (by decide), f162 3021 (by decide), f162 3022 (by decide), f162 3023 (by decide), f162 3024 (by decide), f162 3025 (by decide), f162 3026 (by decide)]; exact hx131
                      have hx198 : tpl A (s161 3014) (c 34) := by rw [f162 3014 (by decide)]; exact hx132
                      have hf3 : s161 3050 ≠ 0 := by have h := k163 (by omega); omega
                      have hrq : rqN Z (fun q => (eM q (oR Z p_.toNat M))) (rdNum A (ke (M 36 p_.toNat) (M 39 p_.toNat)) (Z 3026 - Z 3025 - 1) (Z 3025) (s 3049, s 3052, s 3054)) := rq_1 hnm (by show ¬ (-(Z 3024 / 2) ≤ (eM r93 (oR Z p_.toNat M)) ∧ (eM r93 (oR Z p_.toNat M)) ≤ (Z 3024 - 1) / 2); exact hno (by omega))
                      refine tt_k 2 (S' := (394, [some (.inr (.inl 30)), some (.inl x), some (.inl y), some (.inl p_), some (.inl r34), some (.inl j39), some (.inl j138), some (.inl (s46 3053)), some (.inl r93), some (.inl j133)], [.inl (s161 3050)], n, D, s161, p, c)) rfl ?_
                      refine tz_le (x := (s161 3050)) rfl rfl (by omega) (fun h199 => ?_) (fun h199 => ?_)
                      · exfalso; omega
                      · show tt Zi d 173 (397, [some (.inr (.inl 30)), some (.inl x), some (.inl y), some (.inl p_), some (.inl r34), some (.inl j39), some (.inl j138), some (.inl (s46 3053)), some (.inl r93), some (.inl j133)], [], n, D, s161, p, c) _
                        exact tt_rtv rfl rfl ⟨s161, c, rfl, rfl, hS161, hC, (fr_tr (fr_tr (fr_tr (fr_us (by decide) (fr_us (by decide) fr_rf)) f47 (by decide)) f94 (by decide)) f162 (by decide)), frc_rf, fun hf => absurd hf (by omega), fun _ => hrq, by show (s161 3050) = 0 → (0 ≤ (s161 3054) ∧ (s161 3054) ≤ 8) ∧ (0 ≤ (s161 3052) ∧ (s161 3052) ≤ 255); omega, by show (s161 3050) = 0 → (s161 3049) ≤ s 3014; omega⟩
                refine tz_eq (x := j39) rfl rfl (by omega) (fun h200 => ?_) (fun h200 => ?_)
                · show tt Zi d 173 (345, [some (.inr (.inl 30)), some (.inl x), some (.inl y), some (.inl p_), some (.inl r34), some (.inl j39), some (.inl 0), some (.inl (s46 3053)), some (.inl r93), some (.inl j133)], [], n, D, s92, p, c) _
                  refine tt_k 1 (S' := (347, [some (.inr (.inl 30)), some (.inl x), some (.inl y), some (.inl p_), some (.inl r34), some (.inl j39), some (.inl 0), some (.inl (s46 3053)), some (.inl r93), some (.inl j133)], [.inl j133], n, D, s92, p, c)) rfl ?_
                  refine tz_eq (x := j133) rfl rfl (by omega) (fun h201 => ?_) (fun h201 => ?_)
                  · show tt Zi d 173 (360, [some (.inr (.inl 30)), some (.inl x), some (.inl y), some (.inl p_), some (.inl r34), some (.inl j39), some (.inl 0), some (.inl (s46 3053)), some (.inl r93), some (.inl j133)], [], n, D, s92, p, c) _
                    refine tt_k 2 (S' := (363, [some (.inr (.inl 30)), some (.inl x), some (.inl y), some (.inl p_), some (.inl r34), some (.inl j39), some (.inl 0), some (.inl (s46 3053)), some (.inl r93), some (.inl j133)], [.inl 2, .inl r93], n, D, s92, p, c)) rfl ?_
                    refine tt_dvp (x := r93) (y := 2) rfl (by omega) ?_
                    show tt Zi d 173 (364, [some (.inr (.inl 30)), some (.inl x), some (.inl y), some (.inl p_), some (.inl r34), some (.inl j39), some (.inl 0), some (.inl (s46 3053)), some (.inl r93), some (.inl j133)], [.inl (r93 / 2)], n, D, s92, p, c) _
                    exact K139 (r93 / 2)  (by omega) (by unfold eM; first | (rw [if_pos (by omega)]; omega) | (rw [if_neg (by omega)]; omega) | rw [if_pos (by omega)] | rw [if_neg (by omega)]) (trivial)
                  · show tt Zi d 173 (350, [some (.inr (.inl 30)), some (.inl x), some (.inl y), some (.inl p_), some (.inl r34), some (.inl j39), some (.inl 0), some (.inl (s46 3053)), some (.inl r93), some (.inl j133)], [], n, D, s92, p, c) _
                    refine tt_k 5 (S' := (356, [some (.inr (.inl 30)), some (.inl x), some (.inl y), some (.inl p_), some (.inl r34), some (.inl j39), some (.inl 0), some (.inl (s46 3053)), some (.inl r93), some (.inl j133)], [.inl 2, .inl (-(r93 + 1))], n, D, s92, p, c)) rfl ?_
                    refine tt_div (x := (-(r93 + 1))) (y := 2) rfl (by omega) ?_
                    show tt Zi d 173 (357, [some (.inr (.inl 30)), some (.inl x), some (.inl y), some (.inl p_), some (.inl r34), some (.inl j39), some (.inl 0), some (.inl (s46 3053)), some (.inl r93), some (.inl j133)], [.inl ((Int.tdiv (-(r93 + 1)) 2))], n, D, s92, p, c) _
                    have b202 := tdv_bd (x := (-(r93 + 1))) (y := 2) (a := 1073741824) (by omega) (by omega) (by omega)
                    have hd203 : (Int.tdiv (-(r93 + 1)) 2) = -(((r93 + 1)) / 2) := by rw [Int.neg_tdiv, Int.tdiv_eq_ediv_of_nonneg (by omega)]
                    refine tt_k 1 (S' := (364, [some (.inr (.inl 30)), some (.inl x), some (.inl y), some (.inl p_), some (.inl r34), some (.inl j39), some (.inl 0), some (.inl (s46 3053)), some (.inl r93), some (.inl j133)], [.inl ((Int.tdiv (-(r93 + 1)) 2))], n, D, s92, p, c)) rfl ?_
                    exact K139 ((Int.tdiv (-(r93 + 1)) 2))  (by omega) (by unfold eM; first | (rw [if_pos (by omega)]; omega) | (rw [if_neg (by omega)]; omega) | rw [if_pos (by omega)] | rw [if_neg (by omega)]) (trivial)
                · show tt Zi d 173 (323, [some (.inr (.inl 30)), some (.inl x), some (.inl y), some (.inl p_), some (.inl r34), some (.inl j39), some (.inl 0), some (.inl (s46 3053)), some (.inl r93), some (.inl j133)], [], n, D, s92, p, c) _
                  refine tt_k 1 (S' := (325, [some (.inr (.inl 30)), some (.inl x), some (.inl y), some (.inl p_), some (.inl r34), some (.inl j39), some (.inl 0), some (.inl (s46 3053)), some (.inl r93), some (.inl j133)], [.inl j133], n, D, s92, p, c)) rfl ?_
                  refine tz_eq (x := j133) rfl rfl (by omega) (fun h204 => ?_) (fun h204 => ?_)
                  · show tt Zi d 173 (335, [some (.inr (.inl 30)), some (.inl x), some (.inl y), some (.inl p_), some (.inl r34), some (.inl j39), some (.inl 0), some (.inl (s46 3053)), some (.inl r93), some (.inl j133)], [], n, D, s92, p, c) _
                    refine tt_k 2 (S' := (338, [some (.inr (.inl 30)), some (.inl x), some (.inl y), some (.inl p_), some (.inl r34), some (.inl j39), some (.inl 0), some (.inl (s46 3053)), some (.inl r93), some (.inl j133)], [.inl 2, .inl r93], n, D, s92, p, c)) rfl ?_
                    refine tt_dvp (x := r93) (y := 2) rfl (by omega) ?_
                    show tt Zi d 173 (339, [some (.inr (.inl 30)), some (.inl x), some (.inl y), some (.inl p_), some (.inl r34), some (.inl j39), some (.inl 0), some (.inl (s46 3053)), some (.inl r93), some (.inl j133)], [.inl (r93 / 2)], n, D, s92, p, c) _
                    refine tt_k 4 (S' := (364, [some (.inr (.inl 30)), some (.inl x), some (.inl y), some (.inl p_), some (.inl r34), some (.inl j39), some (.inl 0), some (.inl (s46 3053)), some (.inl r93), some (.inl j133)], [.inl (((-(r93 / 2)) - 1))], n, D, s92, p, c)) rfl ?_
                    exact K139 (((-(r93 / 2)) - 1))  (by omega) (by unfold eM; first | (rw [if_pos (by omega)]; omega) | (rw [if_neg (by omega)]; omega) | rw [if_pos (by omega)] | rw [if_neg (by omega)]) (trivial)
                  · show tt Zi d 173 (328, [some (.inr (.inl 30)), some (.inl x), some (.inl y), some (.inl p_), some (.inl r34), some (.inl j39), some (.inl 0), some (.inl (s46 3053)), some (.inl r93), some (.inl j133)], [], n, D, s92, p, c) _
                    refine tt_k 2 (S' := (331, [some (.inr (.inl 30)), some (.inl x), some (.inl y), some (.inl p_), some (.inl r34), some (.inl j39), some (.inl 0), some (.inl (s46 3053)), some (.inl r93), some (.inl j133)], [.inl 2, .inl r93], n, D, s92, p, c)) rfl ?_
                    refine tt_dvp (x := r93) (y := 2) rfl (by omega) ?_
                    show tt Zi d 173 (332, [some (.inr (.inl 30)), some (.inl x), some (.inl y), some (.inl p_), some (.inl r34), some (.inl j39), some (.inl 0), some (.inl (s46 3053)), some (.inl r93), some (.inl j133)], [.inl (r93 / 2)], n, D, s92, p, c) _
                    refine tt_k 1 (S' := (364, [some (.inr (.inl 30)), some (.inl x), some (.inl y), some (.inl p_), some (.inl r34), some (.inl j39), some (.inl 0), some (.inl (s46 3053)), some (.inl r93), some (.inl j133)], [.inl (r93 / 2)], n, D, s92, p, c)) rfl ?_
                    exact K139 (r93 / 2)  (by omega) (by unfold eM; first | (rw [if_pos (by omega)]; omega) | (rw [if_neg (by omega)]; omega) | rw [if_pos (by omega)] | rw [if_neg (by omega)]) (trivial)
              refine tb_ne (x := (r93 % 2)) (y := 1) rfl rfl (by omega) (fun h205 => ?_) (fun h205 => ?_)
              · show tt Zi d 173 (315, [some (.inr (.inl 30)), some (.inl x), some (.inl y), some (.inl p_), some (.inl r34), some (.inl j39), some (.inl 0), some (.inl (s46 3053)), some (.inl r93), none], [], n, D, s92, p, c) _
                refine tt_k 1 (S' := (316, [some (.inr (.inl 30)), some (.inl x), some (.inl y), some (.inl p_), some (.inl r34), some (.inl j39), some (.inl 0), some (.inl (s46 3053)), some (.inl r93), none], [.inl 0], n, D, s92, p, c)) rfl ?_
                exact K134 0  (by omega) (by omega) (trivial)
              · show tt Zi d 173 (311, [some (.inr (.inl 30)), some (.inl x), some (.inl y), some (.inl p_), some (.inl r34), some (.inl j39), some (.inl 0), some (.inl (s46 3053)), some (.inl r93), none], [], n, D, s92, p, c) _
                refine tt_k 2 (S' := (316, [some (.inr (.inl 30)), some (.inl x), some (.inl y), some (.inl p_), some (.inl r34), some (.inl j39), some (.inl 0), some (.inl (s46 3053)), some (.inl r93), none], [.inl 1], n, D, s92, p, c)) rfl ?_
                exact K134 1  (by omega) (by omega) (trivial)
            · skip
              have hrq : rqN Z (fun q => (eM q (oR Z p_.toNat M))) (rdNum A (ke (M 36 p_.toNat) (M 39 p_.toNat)) (Z 3026 - Z 3025 - 1) (Z 3025) (s 3049, s 3052, s 3054)) := rq_0 (by have h := k97 hf2; rw [hkr, hl8, hq8, hnr] at h; exact h)
              refine tt_k 3 (S' := (306, [some (.inr (.inl 30)), some (.inl x), some (.inl y), some (.inl p_), some (.inl r34), some (.inl j39), some (.inl 0), some (.inl (s46 3053)), some (.inl r93), none], [.inl 2, .inl r93], n, D, s92, p, c)) rfl ?_
              refine tt_rmp (x := r93) (y := 2) rfl (by omega) ?_
              show tt Zi d 173 (307, [some (.inr (.inl 30)), some (.inl x), some (.inl y), some (.inl p_), some (.inl r34), some (.inl j39), some (.inl 0), some (.inl (s46 3053)), some (.inl r93), none], [.inl (r93 % 2)], n, D, s92, p, c) _
              refine tt_k 1 (S' := (308, [some (.inr (.inl 30)), some (.inl x), some (.inl y), some (.inl p_), some (.inl r34), some (.inl j39), some (.inl 0), some (.inl (s46 3053)), some (.inl r93), none], [.inl 1, .inl (r93 % 2)], n, D, s92, p, c)) rfl ?_
              have K207 : ∀ (j206 : Int) , (0 ≤ j206 ∧ j206 ≤ 1) → (j206 = r93 % 2) → (True) → tt Zi d 173 (316, [some (.inr (.inl 30)), some (.inl x), some (.inl y), some (.inl p_), some (.inl r34), some (.inl j39), some (.inl 0), some (.inl (s46 3053)), some (.inl r93), none], [.inl j206], n, D, s92, p, c) (fun R H => ∃ (s' : Nat → Int) (c' : Nat → Nat → Int), R = .inl none ∧ H = (n, D, s', p, c') ∧ bS s' ∧ bC D c' ∧ fr s s' [3045, 3049, 3050, 3051, 3052, 3053, 3054] ∧ frc c c' [36, 37, 38, 39, 44] ∧ (s' 3050 = 0 → ∃ q, (rdNum A (ke (M 36 p_.toNat) (M 39 p_.toNat)) (Z 3026 - Z 3025 - 1) (Z 3025) (s 3049, s 3052, s 3054)) = some (q, s' 3049, s' 3052, s' 3054) ∧ (-(Z 3024 / 2) ≤ (eM q (oR Z p_.toNat M)) ∧ (eM q (oR Z p_.toNat M)) ≤ (Z 3024 - 1) / 2) ∧ mrl (mLrn Z M p_.toNat (eM q (oR Z p_.toNat M))) (c' 36) (c' 37) (c' 38) (c' 39) ∧ c' 44 = ua (c 44) (s 3039 + 64 * y + x).toNat (rR Z (gR Z (s 3041) (s 3042) (s 3043) (s 3046) p_.toNat M) (s 3046) (eM q (oR Z p_.toNat M)))) ∧ (s' 3050 ≠ 0 → rqN Z (fun q => (eM q (oR Z p_.toNat M))) (rdNum A (ke (M 36 p_.toNat) (M 39 p_.toNat)) (Z 3026 - Z 3025 - 1) (Z 3025) (s 3049, s 3052, s 3054))) ∧ (s' 3050 = 0 → (0 ≤ s' 3054 ∧ s' 3054 ≤ 8) ∧ (0 ≤ s' 3052 ∧ s' 3052 ≤ 255)) ∧ (s' 3050 = 0 → s' 3049 ≤ s 3014)) := by
                intro j206 b209 b210 hj208
                refine tt_k 2 (S' := (320, [some (.inr (.inl 30)), some (.inl x), some (.inl y), some (.inl p_), some (.inl r34), some (.inl j39), some (.inl 0), some (.inl (s46 3053)), some (.inl r93), some (.inl j206)], [.inl j39], n, D, s92, p, c)) rfl ?_
                have K212 : ∀ (j211 : Int) , (-1073741824 ≤ j211 ∧ j211 ≤ 1073741824) → (j211 = eM r93 j39) → (True) → tt Zi d 173 (364, [some (.inr (.inl 30)), some (.inl x), some (.inl y), some (.inl p_), some (.inl r34), some (.inl j39), some (.inl 0), some (.inl (s46 3053)), some (.inl r93), some (.inl j206)], [.inl j211], n, D, s92, p, c) (fun R H => ∃ (s' : Nat → Int) (c' : Nat → Nat → Int), R = .inl none ∧ H = (n, D, s', p, c') ∧ bS s' ∧ bC D c' ∧ fr s s' [3045, 3049, 3050, 3051, 3052, 3053, 3054] ∧ frc c c' [36, 37, 38, 39, 44] ∧ (s' 3050 = 0 → ∃ q, (rdNum A (ke (M 36 p_.toNat) (M 39 p_.toNat)) (Z 3026 - Z 3025 - 1) (Z 3025) (s 3049, s 3052, s 3054)) = some (q, s' 3049, s' 3052, s' 3054) ∧ (-(Z 3024 / 2) ≤ (eM q (oR Z p_.toNat M)) ∧ (eM q (oR Z p_.toNat M)) ≤ (Z 3024 - 1) / 2) ∧ mrl (mLrn Z M p_.toNat (eM q (oR Z p_.toNat M))) (c' 36) (c' 37) (c' 38) (c' 39) ∧ c' 44 = ua (c 44) (s 3039 + 64 * y + x).toNat (rR Z (gR Z (s 3041) (s 3042) (s 3043) (s 3046) p_.toNat M) (s 3046) (eM q (oR Z p_.toNat M)))) ∧ (s' 3050 ≠ 0 → rqN Z (fun q => (eM q (oR Z p_.toNat M))) (rdNum A (ke (M 36 p_.toNat) (M 39 p_.toNat)) (Z 3026 - Z 3025 - 1) (Z 3025) (s 3049, s 3052, s 3054))) ∧ (s' 3050 = 0 → (0 ≤ s' 3054 ∧ s' 3054 ≤ 8) ∧ (0 ≤ s' 3052 ∧ s' 3052 ≤ 255)) ∧ (s' 3050 = 0 → s' 3049 ≤ s 3014)) := by
                  intro j211 b214 b215 hj213
                  refine tt_k 3 (S' := (370, [some (.inr (.inl 30)), some (.inl x), some (.inl y), some (.inl p_), some (.inl r34), some (.inl j39), some (.inl j211), some (.inl (s46 3053)), some (.inl r93), some (.inl j206)], [.inl (s92 3050)], n, D, s92, p, c)) rfl ?_
                  refine tz_ne (x := (s92 3050)) rfl rfl (by omega) (fun h216 => ?_) (fun h216 => ?_)
                  · show tt Zi d 173 (390, [some (.inr (.inl 30)), some (.inl x), some (.inl y), some (.inl p_), some (.inl r34), some (.inl j39), some (.inl j211), some (.inl (s46 3053)), some (.inl r93), some (.inl j206)], [], n, D, s92, p, c) _
                    refine tt_k 2 (S' := (394, [some (.inr (.inl 30)), some (.inl x), some (.inl y), some (.inl p_), some (.inl r34), some (.inl j39), some (.inl j211), some (.inl (s46 3053)), some (.inl r93), some (.inl j206)], [.inl (s92 3050)], n, D, s92, p, c)) rfl ?_
                    refine tz_le (x := (s92 3050)) rfl rfl (by omega) (fun h217 => ?_) (fun h217 => ?_)
                    · exfalso; omega
                    · show tt Zi d 173 (397, [some (.inr (.inl 30)), some (.inl x), some (.inl y), some (.inl p_), some (.inl r34), some (.inl j39), some (.inl j211), some (.inl (s46 3053)), some (.inl r93), some (.inl j206)], [], n, D, s92, p, c) _
                      exact tt_rtv rfl rfl ⟨s92, c, rfl, rfl, hS92, hC, (fr_tr (fr_tr (fr_us (by decide) (fr_us (by decide) fr_rf)) f47 (by decide)) f94 (by decide)), frc_rf, fun hf => absurd hf (by omega), fun _ => hrq, by show (s92 3050) = 0 → (0 ≤ (s92 3054) ∧ (s92 3054) ≤ 8) ∧ (0 ≤ (s92 3052) ∧ (s92 3052) ≤ 255); omega, by show (s92 3050) = 0 → (s92 3049) ≤ s 3014; omega⟩
                  · exfalso; omega
                refine tz_eq (x := j39) rfl rfl (by omega) (fun h218 => ?_) (fun h218 => ?_)
                · show tt Zi d 173 (345, [some (.inr (.inl 30)), some (.inl x), some (.inl y), some (.inl p_), some (.inl r34), some (.inl j39), some (.inl 0), some (.inl (s46 3053)), some (.inl r93), some (.inl j206)], [], n, D, s92, p, c) _
                  refine tt_k 1 (S' := (347, [some (.inr (.inl 30)), some (.inl x), some (.inl y), some (.inl p_), some (.inl r34), some (.inl j39), some (.inl 0), some (.inl (s46 3053)), some (.inl r93), some (.inl j206)], [.inl j206], n, D, s92, p, c)) rfl ?_
                  refine tz_eq (x := j206) rfl rfl (by omega) (fun h219 => ?_) (fun h219 => ?_)
                  · show tt Zi d 173 (360, [some (.inr (.inl 30)), some (.inl x), some (.inl y), some (.inl p_), some (.inl r34), some (.inl j39), some (.inl 0), some (.inl (s46 3053)), some (.inl r93), some (.inl j206)], [], n, D, s92, p, c) _
                    refine tt_k 2 (S' := (363, [some (.inr (.inl 30)), some (.inl x), some (.inl y), some (.inl p_), some (.inl r34), some (.inl j39), some (.inl 0), some (.inl (s46 3053)), some (.inl r93), some (.inl j206)], [.inl 2, .inl r93], n, D, s92, p, c)) rfl ?_
                    refine tt_dvp (x := r93) (y := 2) rfl (by omega) ?_
                    show tt Zi d 173 (364, [some (.inr (.inl 30)), some (.inl x), some (.inl y), some (.inl p_), some (.inl r34), some (.inl j39), some (.inl 0), some (.inl (s46 3053)), some (.inl r93), some (.inl j206)], [.inl (r93 / 2)], n, D, s92, p, c) _
                    exact K212 (r93 / 2)  (by omega) (by unfold eM; first | (rw [if_pos (by omega)]; omega) | (rw [if_neg (by omega)]; omega) | rw [if_pos (by omega)] | rw [if_neg (by omega)]) (trivial)
                  · show tt Zi d 173 (350, [some (.inr (.inl 30)), some (.inl x), some (.inl y), some (.inl p_), some (.inl r34), some (.inl j39), some (.inl 0), some (.inl (s46 3053)), some (.inl r93), some (.inl j206)], [], n, D, s92, p, c) _
                    refine tt_k 5 (S' := (356, [some (.inr (.inl 30)), some (.inl x), some (.inl y), some (.inl p_), some (.inl r34), some (.inl j39), some (.inl 0), some (.inl (s46 3053)), some (.inl r93), some (.inl j206)], [.inl 2, .inl (-(r93 + 1))], n, D, s92, p, c)) rfl ?_
                    refine tt_div (x := (-(r93 + 1))) (y := 2) rfl (by omega) ?_
                    show tt Zi d 173 (357, [some (.inr (.inl 30)), some (.inl x), some (.inl y), some (.inl p_), some (.inl r34), some (.inl j39), some (.inl 0), some (.inl (s46 3053)), some (.inl r93), some (.inl j206)], [.inl ((Int.tdiv (-(r93 + 1)) 2))], n, D, s92, p, c) _
                    have b220 := tdv_bd (x := (-(r93 + 1))) (y := 2) (a := 1073741824) (by omega) (by omega) (by omega)
                    have hd221 : (Int.tdiv (-(r93 + 1)) 2) = -(((r93 + 1)) / 2) := by rw [Int.neg_tdiv, Int.tdiv_eq_ediv_of_nonneg (by omega)]
                    refine tt_k 1 (S' := (364, [some (.inr (.inl 30)), some (.inl x), some (.inl y), some (.inl p_), some (.inl r34), some (.inl j39), some (.inl 0), some (.inl (s46 3053)), some (.inl r93), some (.inl j206)], [.inl ((Int.tdiv (-(r93 + 1)) 2))], n, D, s92, p, c)) rfl ?_
                    exact K212 ((Int.tdiv (-(r93 + 1)) 2))  (by omega) (by unfold eM; first | (rw [if_pos (by omega)]; omega) | (rw [if_neg (by omega)]; omega) | rw [if_pos (by omega)] | rw [if_neg (by omega)]) (trivial)
                · show tt Zi d 173 (323, [some (.inr (.inl 30)), some (.inl x), some (.inl y), some (.inl p_), some (.inl r34), some (.inl j39), some (.inl 0), some (.inl (s46 3053)), some (.inl r93), some (.inl j206)], [], n, D, s92, p, c) _
                  refine tt_k 1 (S' := (325, [some (.inr (.inl 30)), some (.inl x), some (.inl y), some (.inl p_), some (.inl r34), some (.inl j39), some (.inl 0), some (.inl (s46 3053)), some (.inl r93), some (.inl j206)], [.inl j206], n, D, s92, p, c)) rfl ?_
                  refine tz_eq (x := j206) rfl rfl (by omega) (fun h222 => ?_) (fun h222 => ?_)
                  · show tt Zi d 173 (335, [some (.inr (.inl 30)), some (.inl x), some (.inl y), some (.inl p_), some (.inl r34), some (.inl j39), some (.inl 0), some (.inl (s46 3053)), some (.inl r93), some (.inl j206)], [], n, D, s92, p, c) _
                    refine tt_k 2 (S' := (338, [some (.inr (.inl 30)), some (.inl x), some (.inl y), some (.inl p_), some (.inl r34), some (.inl j39), some (.inl 0), some (.inl (s46 3053)), some (.inl r93), some (.inl j206)], [.inl 2, .inl r93], n, D, s92, p, c)) rfl ?_
                    refine tt_dvp (x := r93) (y := 2) rfl (by omega) ?_
                    show tt Zi d 173 (339, [some (.inr (.inl 30)), some (.inl x), some (.inl y), some (.inl p_), some (.inl r34), some (.inl j39), some (.inl 0), some (.inl (s46 3053)), some (.inl r93), some (.inl j206)], [.inl (r93 / 2)], n, D, s92, p, c) _
                    refine tt_k 4 (S' := (364, [some (.inr (.inl 30)), some (.inl x), some (.inl y), some (.inl p_), some (.inl r34), some (.inl j39), some (.inl 0), some (.inl (s46 3053)), some (.inl r93), some (.inl j206)], [.inl (((-(r93 / 2)) - 1))], n, D, s92, p, c)) rfl ?_
                    exact K212 (((-(r93 / 2)) - 1))  (by omega) (by unfold eM; first | (rw [if_pos (by omega)]; omega) | (rw [if_neg (by omega)]; omega) | rw [if_pos (by omega)] | rw [if_neg (by omega)]) (trivial)
                  · show tt Zi d 173 (328, [some (.inr (.inl 30)), some (.inl x), some (.inl y), some (.inl p_), some (.inl r34), some (.inl j39), some (.inl 0), some (.inl (s46 3053)), some (.inl r93), some (.inl j206)], [], n, D, s92, p, c) _
                    refine tt_k 2 (S' := (331, [some (.inr (.inl 30)), some (.inl x), some (.inl y), some (.inl p_), some (.inl r34), some (.inl j39), some (.inl 0), some (.inl (s46 3053)), some (.inl r93), some (.inl j206)], [.inl 2, .inl r93], n, D, s92, p, c)) rfl ?_
                    refine tt_dvp (x := r93) (y := 2) rfl (by omega) ?_
                    show tt Zi d 173 (332, [some (.inr (.inl 30)), some (.inl x), some (.inl y), some (.inl p_), some (.inl r34), some (.inl j39), some (.inl 0), some (.inl (s46 3053)), some (.inl r93), some (.inl j206)], [.inl (r93 / 2)], n, D, s92, p, c) _
                    refine tt_k 1 (S' := (364, [some (.inr (.inl 30)), some (.inl x), some (.inl y), some (.inl p_), some (.inl r34), some (.inl j39), some (.inl 0), some (.inl (s46 3053)), some (.inl r93), some (.inl j206)], [.inl (r93 / 2)], n, D, s92, p, c)) rfl ?_
                    exact K212 (r93 / 2)  (by omega) (by unfold eM; first | (rw [if_pos (by omega)]; omega) | (rw [if_neg (by omega)]; omega) | rw [if_pos (by omega)] | rw [if_neg (by omega)]) (trivial)
              refine tb_ne (x := (r93 % 2)) (y := 1) rfl rfl (by omega) (fun h223 => ?_) (fun h223 => ?_)
              · show tt Zi d 173 (315, [some (.inr (.inl 30)), some (.inl x), some (.inl y), some (.inl p_), some (.inl r34), some (.inl j39), some (.inl 0), some (.inl (s46 3053)), some (.inl r93), none], [], n, D, s92, p, c) _
                refine tt_k 1 (S' := (316, [some (.inr (.inl 30)), some (.inl x), some (.inl y), some (.inl p_), some (.inl r34), some (.inl j39), some (.inl 0), some (.inl (s46 3053)), some (.inl r93), none], [.inl 0], n, D, s92, p, c)) rfl ?_
                exact K207 0  (by omega) (by omega) (trivial)
              · show tt Zi d 173 (311, [some (.inr (.inl 30)), some (.inl x), some (.inl y), some (.inl p_), some (.inl r34), some (.inl j39), some (.inl 0), some (.inl (s46 3053)), some (.inl r93), none], [], n, D, s92, p, c) _
                refine tt_k 2 (S' := (316, [some (.inr (.inl 30)), some (.inl x), some (.inl y), some (.inl p_), some (.inl r34), some (.inl j39), some (.inl 0), some (.inl (s46 3053)), some (.inl r93), none], [.inl 1], n, D, s92, p, c)) rfl ?_
                exact K207 1  (by omega) (by omega) (trivial)
          · skip
            have hrq : rqN Z (fun q => (eM q (oR Z p_.toNat M))) (rdNum A (ke (M 36 p_.toNat) (M 39 p_.toNat)) (Z 3026 - Z 3025 - 1) (Z 3025) (s 3049, s 3052, s 3054)) := rq_0 (num_n (zI_0n (rdBit_rn (k49 hf1))))
            refine tt_k 7 (S' := (298, [some (.inr (.inl 30)), some (.inl x), some (.inl y), some (.inl p_), some (.inl r34), some (.inl j39), some (.inl 0), some (.inl (s46 3053)), none, none], [.inl (s46 3026), .inl r34, .inr (.inl 30)], n, D, s46, p, c)) rfl ?_
            refine tt_cl (by omega) rfl (k_number (Zi := Zi) (D := D) (s := s46) (p := p) (c := c) (by omega) hS46 hC r34 (s46 3026) (by omega) (by omega) (show 0 ≤ (s46 3026) - (s46 3025) - 1 ∧ (s46 3026) - (s46 3025) - 1 ≤ 64 ∧ (s46 3025) ≤ 16 by omega)) ?_
            rintro _ _ ⟨s224, r225, rfl, rfl, hS224, f226, b227, k228, k229, k230⟩
            have hc231 : mv s224 := mv_fr f226 (by decide) hc52
            show tt Zi d 173 (301, [some (.inr (.inl 30)), some (.inl x), some (.inl y), some (.inl p_), some (.inl r34), some (.inl j39), some (.inl 0), some (.inl (s46 3053)), none, none], [.inl r225], n, D, s224, p, c) _
            replace k228 : (s46 3049) ≤ (s224 3049) := k228
            replace k229 : (s46 3050) ≠ 0 → (s224 3050) ≠ 0 := k229
            replace k230 : (s46 3049) ≤ 32768 → (s224 3049) ≤ 32768 := k230
            have b232 : 0 ≤ (s224 3049) ∧ (s224 3049) ≤ 32769 := hS224 3049
            have b233 : 0 ≤ (s224 3050) ∧ (s224 3050) ≤ 8 := hS224 3050
            have e234 : s224 3039 = (s46 3039) := (f226 3039 (by decide))
            have b235 : 0 ≤ (s224 3039) ∧ (s224 3039) ≤ 8192 := hS224 3039
            have e236 : s224 3017 = (s46 3017) := (f226 3017 (by decide))
            have b237 : 0 ≤ (s224 3017) ∧ (s224 3017) ≤ 65535 := hS224 3017
            have e238 : s224 3024 = (s46 3024) := (f226 3024 (by decide))
            have b239 : -2147483648 ≤ (s224 3024) ∧ (s224 3024) ≤ 2147483647 := hS224 3024
            have e240 : s224 3025 = (s46 3025) := (f226 3025 (by decide))
            have b241 : 0 ≤ (s224 3025) ∧ (s224 3025) ≤ 31 := hS224 3025
            have e242 : s224 3026 = (s46 3026) := (f226 3026 (by decide))
            have b243 : 0 ≤ (s224 3026) ∧ (s224 3026) ≤ 96 := hS224 3026
            have e244 : s224 3037 = (s46 3037) := (f226 3037 (by decide))
            have b245 : 0 ≤ (s224 3037) ∧ (s224 3037) ≤ 64 := hS224 3037
            have e246 : s224 3045 = (s46 3045) := (f226 3045 (by decide))
            have b247 : -65535 ≤ (s224 3045) ∧ (s224 3045) ≤ 131070 := hS224 3045
            have e248 : s224 3046 = (s46 3046) := (f226 3046 (by decide))
            have b249 : 0 ≤ (s224 3046) ∧ (s224 3046) ≤ 1 := hS224 3046
            have e250 : s224 3014 = (s46 3014) := (f226 3014 (by decide))
            have b251 : 0 ≤ (s224 3014) ∧ (s224 3014) ≤ 32768 := hS224 3014
            have e252 : s224 3022 = (s46 3022) := (f226 3022 (by decide))
            have b253 : 0 ≤ (s224 3022) ∧ (s224 3022) ≤ 65535 := hS224 3022
            have e254 : s224 3023 = (s46 3023) := (f226 3023 (by decide))
            have b255 : -2147483648 ≤ (s224 3023) ∧ (s224 3023) ≤ 2147483647 := hS224 3023
            have e256 : s224 3018 = (s46 3018) := (f226 3018 (by decide))
            have b257 : -2147483648 ≤ (s224 3018) ∧ (s224 3018) ≤ 2147483647 := hS224 3018
            have e258 : s224 3036 = (s46 3036) := (f226 3036 (by decide))
            have b259 : 0 ≤ (s224 3036) ∧ (s224 3036) ≤ 1 := hS224 3036
            have hx260 : zq Z (s224 3017) (s224 3018) (s224 3019) (s224 3020) (s224 3021) (s224 3022) (s224 3023) (s224 3024) (s224 3025) (s224 3026) := by rw [f226 3017 (by decide), f226 3018 (by decide), f226 3019 (by decide), f226 3020 (by decide), f226 3021 (by decide), f226 3022 (by decide), f226 3023 (by decide), f226 3024 (by decide), f226 3025 (by decide), f226 3026 (by decide)]; exact hx90
            have hx261 : tpl A (s224 3014) (c 34) := by rw [f226 3014 (by decide)]; exact hx91
            refine tt_k 3 (S' := (306, [some (.inr (.inl 30)), some (.inl x), some (.inl y), some (.inl p_), some (.inl r34), some (.inl j39), some (.inl 0), some (.inl (s46 3053)), some (.inl r225), none], [.inl 2, .inl r225], n, D, s224, p, c)) rfl ?_
            refine tt_rmp (x := r225) (y := 2) rfl (by omega) ?_
            show tt Zi d 173 (307, [some (.inr (.inl 30)), some (.inl x), some (.inl y), some (.inl p_), some (.inl r34), some (.inl j39), some (.inl 0), some (.inl (s46 3053)), some (.inl r225), none], [.inl (r225 % 2)], n, D, s224, p, c) _
            refine tt_k 1 (S' := (308, [some (.inr (.inl 30)), some (.inl x), some (.inl y), some (.inl p_), some (.inl r34), some (.inl j39), some (.inl 0), some (.inl (s46 3053)), some (.inl r225), none], [.inl 1, .inl (r225 % 2)], n, D, s224, p, c)) rfl ?_
            have K263 : ∀ (j262 : Int) , (0 ≤ j262 ∧ j262 ≤ 1) → (j262 = r225 % 2) → (True) → tt Zi d 173 (316, [some (.inr (.inl 30)), some (.inl x), some (.inl y), some (.inl p_), some (.inl r34), some (.inl j39), some (.inl 0), some (.inl (s46 3053)), some (.inl r225), none], [.inl j262], n, D, s224, p, c) (fun R H => ∃ (s' : Nat → Int) (c' : Nat → Nat → Int), R = .inl none ∧ H = (n, D, s', p, c') ∧ bS s' ∧ bC D c' ∧ fr s s' [3045, 3049, 3050, 3051, 3052, 3053, 3054] ∧ frc c c' [36, 37, 38, 39, 44] ∧ (s' 3050 = 0 → ∃ q, (rdNum A (ke (M 36 p_.toNat) (M 39 p_.toNat)) (Z 3026 - Z 3025 - 1) (Z 3025) (s 3049, s 3052, s 3054)) = some (q, s' 3049, s' 3052, s' 3054) ∧ (-(Z 3024 / 2) ≤ (eM q (oR Z p_.toNat M)) ∧ (eM q (oR Z p_.toNat M)) ≤ (Z 3024 - 1) / 2) ∧ mrl (mLrn Z M p_.toNat (eM q (oR Z p_.toNat M))) (c' 36) (c' 37) (c' 38) (c' 39) ∧ c' 44 = ua (c 44) (s 3039 + 64 * y + x).toNat (rR Z (gR Z (s 3041) (s 3042) (s 3043) (s 3046) p_.toNat M) (s 3046) (eM q (oR Z p_.toNat M)))) ∧ (s' 3050 ≠ 0 → rqN Z (fun q => (eM q (oR Z p_.toNat M))) (rdNum A (ke (M 36 p_.toNat) (M 39 p_.toNat)) (Z 3026 - Z 3025 - 1) (Z 3025) (s 3049, s 3052, s 3054))) ∧ (s' 3050 = 0 → (0 ≤ s' 3054 ∧ s' 3054 ≤ 8) ∧ (0 ≤ s' 3052 ∧ s' 3052 ≤ 255)) ∧ (s' 3050 = 0 → s' 3049 ≤ s 3014)) := by
              intro j262 b265 b266 hj264
              refine tt_k 2 (S' := (320, [some (.inr (.inl 30)), some (.inl x), some (.inl y), some (.inl p_), some (.inl r34), some (.inl j39), some (.inl 0), some (.inl (s46 3053)), some (.inl r225), some (.inl j262)], [.inl j39], n, D, s224, p, c)) rfl ?_
              have K268 : ∀ (j267 : Int) , (-1073741824 ≤ j267 ∧ j267 ≤ 1073741824) → (j267 = eM r225 j39) → (True) → tt Zi d 173 (364, [some (.inr (.inl 30)), some (.inl x), some (.inl y), some (.inl p_), some (.inl r34), some (.inl j39), some (.inl 0), some (.inl (s46 3053)), some (.inl r225), some (.inl j262)], [.inl j267], n, D, s224, p, c) (fun R H => ∃ (s' : Nat → Int) (c' : Nat → Nat → Int), R = .inl none ∧ H = (n, D, s', p, c') ∧ bS s' ∧ bC D c' ∧ fr s s' [3045, 3049, 3050, 3051, 3052, 3053, 3054] ∧ frc c c' [36, 37, 38, 39, 44] ∧ (s' 3050 = 0 → ∃ q, (rdNum A (ke (M 36 p_.toNat) (M 39 p_.toNat)) (Z 3026 - Z 3025 - 1) (Z 3025) (s 3049, s 3052, s 3054)) = some (q, s' 3049, s' 3052, s' 3054) ∧ (-(Z 3024 / 2) ≤ (eM q (oR Z p_.toNat M)) ∧ (eM q (oR Z p_.toNat M)) ≤ (Z 3024 - 1) / 2) ∧ mrl (mLrn Z M p_.toNat (eM q (oR Z p_.toNat M))) (c' 36) (c' 37) (c' 38) (c' 39) ∧ c' 44 = ua (c 44) (s 3039 + 64 * y + x).toNat (rR Z (gR Z (s 3041) (s 3042) (s 3043) (s 3046) p_.toNat M) (s 3046) (eM q (oR Z p_.toNat M)))) ∧ (s' 3050 ≠ 0 → rqN Z (fun q => (eM q (oR Z p_.toNat M))) (rdNum A (ke (M 36 p_.toNat) (M 39 p_.toNat)) (Z 3026 - Z 3025 - 1) (Z 3025) (s 3049, s 3052, s 3054))) ∧ (s' 3050 = 0 → (0 ≤ s' 3054 ∧ s' 3054 ≤ 8) ∧ (0 ≤ s' 3052 ∧ s' 3052 ≤ 255)) ∧ (s' 3050 = 0 → s' 3049 ≤ s 3014)) := by
                intro j267 b270 b271 hj269
                refine tt_k 3 (S' := (370, [some (.inr (.inl 30)), some (.inl x), some (.inl y), some (.inl p_), some (.inl r34), some (.inl j39), some (.inl j267), some (.inl (s46 3053)), some (.inl r225), some (.inl j262)], [.inl (s224 3050)], n, D, s224, p, c)) rfl ?_
                refine tz_ne (x := (s224 3050)) rfl rfl (by omega) (fun h272 => ?_) (fun h272 => ?_)
                · show tt Zi d 173 (390, [some (.inr (.inl 30)), some (.inl x), some (.inl y), some (.inl p_), some (.inl r34), some (.inl j39), some (.inl j267), some (.inl (s46 3053)), some (.inl r225), some (.inl j262)], [], n, D, s224, p, c) _
                  refine tt_k 2 (S' := (394, [some (.inr (.inl 30)), some (.inl x), some (.inl y), some (.inl p_), some (.inl r34), some (.inl j39), some (.inl j267), some (.inl (s46 3053)), some (.inl r225), some (.inl j262)], [.inl (s224 3050)], n, D, s224, p, c)) rfl ?_
                  refine tz_le (x := (s224 3050)) rfl rfl (by omega) (fun h273 => ?_) (fun h273 => ?_)
                  · exfalso; omega
                  · show tt Zi d 173 (397, [some (.inr (.inl 30)), some (.inl x), some (.inl y), some (.inl p_), some (.inl r34), some (.inl j39), some (.inl j267), some (.inl (s46 3053)), some (.inl r225), some (.inl j262)], [], n, D, s224, p, c) _
                    exact tt_rtv rfl rfl ⟨s224, c, rfl, rfl, hS224, hC, (fr_tr (fr_tr (fr_us (by decide) (fr_us (by decide) fr_rf)) f47 (by decide)) f226 (by decide)), frc_rf, fun hf => absurd hf (by omega), fun _ => hrq, by show (s224 3050) = 0 → (0 ≤ (s224 3054) ∧ (s224 3054) ≤ 8) ∧ (0 ≤ (s224 3052) ∧ (s224 3052) ≤ 255); omega, by show (s224 3050) = 0 → (s224 3049) ≤ s 3014; omega⟩
                · show tt Zi d 173 (373, [some (.inr (.inl 30)), some (.inl x), some (.inl y), some (.inl p_), some (.inl r34), some (.inl j39), some (.inl j267), some (.inl (s46 3053)), some (.inl r225), some (.inl j262)], [], n, D, s224, p, c) _
                  exfalso; omega
              refine tz_eq (x := j39) rfl rfl (by omega) (fun h274 => ?_) (fun h274 => ?_)
              · show tt Zi d 173 (345, [some (.inr (.inl 30)), some (.inl x), some (.inl y), some (.inl p_), some (.inl r34), some (.inl j39), some (.inl 0), some (.inl (s46 3053)), some (.inl r225), some (.inl j262)], [], n, D, s224, p, c) _
                refine tt_k 1 (S' := (347, [some (.inr (.inl 30)), some (.inl x), some (.inl y), some (.inl p_), some (.inl r34), some (.inl j39), some (.inl 0), some (.inl (s46 3053)), some (.inl r225), some (.inl j262)], [.inl j262], n, D, s224, p, c)) rfl ?_
                refine tz_eq (x := j262) rfl rfl (by omega) (fun h275 => ?_) (fun h275 => ?_)
                · show tt Zi d 173 (360, [some (.inr (.inl 30)), some (.inl x), some (.inl y), some (.inl p_), some (.inl r34), some (.inl j39), some (.inl 0), some (.inl (s46 3053)), some (.inl r225), some (.inl j262)], [], n, D, s224, p, c) _
                  refine tt_k 2 (S' := (363, [some (.inr (.inl 30)), some (.inl x), some (.inl y), some (.inl p_), some (.inl r34), some (.inl j39), some (.inl 0), some (.inl (s46 3053)), some (.inl r225), some (.inl j262)], [.inl 2, .inl r225], n, D, s224, p, c)) rfl ?_
                  refine tt_dvp (x := r225) (y := 2) rfl (by omega) ?_
                  show tt Zi d 173 (364, [some (.inr (.inl 30)), some (.inl x), some (.inl y), some (.inl p_), some (.inl r34), some (.inl j39), some (.inl 0), some (.inl (s46 3053)), some (.inl r225), some (.inl j262)], [.inl (r225 / 2)], n, D, s224, p, c) _
                  exact K268 (r225 / 2)  (by omega) (by unfold eM; first | (rw [if_pos (by omega)]; omega) | (rw [if_neg (by omega)]; omega) | rw [if_pos (by omega)] | rw [if_neg (by omega)]) (trivial)
                · show tt Zi d 173 (350, [some (.inr (.inl 30)), some (.inl x), some (.inl y), some (.inl p_), some (.inl r34), some (.inl j39), some (.inl 0), some (.inl (s46 3053)), some (.inl r225), some (.inl j262)], [], n, D, s224, p, c) _
                  refine tt_k 5 (S' := (356, [some (.inr (.inl 30)), some (.inl x), some (.inl y), some (.inl p_), some (.inl r34), some (.inl j39), some (.inl 0), some (.inl (s46 3053)), some (.inl r225), some (.inl j262)], [.inl 2, .inl (-(r225 + 1))], n, D, s224, p, c)) rfl ?_
                  refine tt_div (x := (-(r225 + 1))) (y := 2) rfl (by omega) ?_
                  show tt Zi d 173 (357, [some (.inr (.inl 30)), some (.inl x), some (.inl y), some (.inl p_), some (.inl r34), some (.inl j39), some (.inl 0), some (.inl (s46 3053)), some (.inl r225), some (.inl j262)], [.inl ((Int.tdiv (-(r225 + 1)) 2))], n, D, s224, p, c) _
                  have b276 := tdv_bd (x := (-(r225 + 1))) (y := 2) (a := 1073741824) (by omega) (by omega) (by omega)
                  have hd277 : (Int.tdiv (-(r225 + 1)) 2) = -(((r225 + 1)) / 2) := by rw [Int.neg_tdiv, Int.tdiv_eq_ediv_of_nonneg (by omega)]
                  refine tt_k 1 (S' := (364, [some (.inr (.inl 30)), some (.inl x), some (.inl y), some (.inl p_), some (.inl r34), some (.inl j39), some (.inl 0), some (.inl (s46 3053)), some (.inl r225), some (.inl j262)], [.inl ((Int.tdiv (-(r225 + 1)) 2))], n, D, s224, p, c)) rfl ?_
                  exact K268 ((Int.tdiv (-(r225 + 1)) 2))  (by omega) (by unfold eM; first | (rw [if_pos (by omega)]; omega) | (rw [if_neg (by omega)]; omega) | rw [if_pos (by omega)] | rw [if_neg (by omega)]) (trivial)
              · show tt Zi d 173 (323, [some (.inr (.inl 30)), some (.inl x), some (.inl y), some (.inl p_), some (.inl r34), some (.inl j39), some (.inl 0), some (.inl (s46 3053)), some (.inl r225), some (.inl j262)], [], n, D, s224, p, c) _
                refine tt_k 1 (S' := (325, [some (.inr (.inl 30)), some (.inl x), some (.inl y), some (.inl p_), some (.inl r34), some (.inl j39), some (.inl 0), some (.inl (s46 3053)), some (.inl r225), some (.inl j262)], [.inl j262], n, D, s224, p, c)) rfl ?_
                refine tz_eq (x := j262) rfl rfl (by omega) (fun h278 => ?_) (fun h278 => ?_)
                · show tt Zi d 173 (335, [some (.inr (.inl 30)), some (.inl x), some (.inl y), some (.inl p_), some (.inl r34), some (.inl j39), some (.inl 0), some (.inl (s46 3053)), some (.inl r225), some (.inl j262)], [], n, D, s224, p, c) _
                  refine tt_k 2 (S' := (338, [some (.inr (.inl 30)), some (.inl x), some (.inl y), some (.inl p_), some (.inl r34), some (.inl j39), some (.inl 0), some (.inl (s46 3053)), some (.inl r225), some (.inl j262)], [.inl 2, .inl r225], n, D, s224, p, c)) rfl ?_
                  refine tt_dvp (x := r225) (y := 2) rfl (by omega) ?_
                  show tt Zi d 173 (339, [some (.inr (.inl 30)), some (.inl x), some (.inl y), some (.inl p_), some (.inl r34), some (.inl j39), some (.inl 0), some (.inl (s46 3053)), some (.inl r225), some (.inl j262)], [.inl (r225 / 2)], n, D, s224, p, c) _
                  refine tt_k 4 (S' := (364, [some (.inr (.inl 30)), some (.inl x), some (.inl y), some (.inl p_), some (.inl r34), some (.inl j39), some (.inl 0), some (.inl (s46 3053)), some (.inl r225), some (.inl j262)], [.inl (((-(r225 / 2)) - 1))], n, D, s224, p, c)) rfl ?_
                  exact K268 (((-(r225 / 2)) - 1))  (by omega) (by unfold eM; first | (rw [if_pos (by omega)]; omega) | (rw [if_neg (by omega)]; omega) | rw [if_pos (by omega)] | rw [if_neg (by omega)]) (trivial)
                · show tt Zi d 173 (328, [some (.inr (.inl 30)), some (.inl x), some (.inl y), some (.inl p_), some (.inl r34), some (.inl j39), some (.inl 0), some (.inl (s46 3053)), some (.inl r225), some (.inl j262)], [], n, D, s224, p, c) _
                  refine tt_k 2 (S' := (331, [some (.inr (.inl 30)), some (.inl x), some (.inl y), some (.inl p_), some (.inl r34), some (.inl j39), some (.inl 0), some (.inl (s46 3053)), some (.inl r225), some (.inl j262)], [.inl 2, .inl r225], n, D, s224, p, c)) rfl ?_
                  refine tt_dvp (x := r225) (y := 2) rfl (by omega) ?_
                  show tt Zi d 173 (332, [some (.inr (.inl 30)), some (.inl x), some (.inl y), some (.inl p_), some (.inl r34), some (.inl j39), some (.inl 0), some (.inl (s46 3053)), some (.inl r225), some (.inl j262)], [.inl (r225 / 2)], n, D, s224, p, c) _
                  refine tt_k 1 (S' := (364, [some (.inr (.inl 30)), some (.inl x), some (.inl y), some (.inl p_), some (.inl r34), some (.inl j39), some (.inl 0), some (.inl (s46 3053)), some (.inl r225), some (.inl j262)], [.inl (r225 / 2)], n, D, s224, p, c)) rfl ?_
                  exact K268 (r225 / 2)  (by omega) (by unfold eM; first | (rw [if_pos (by omega)]; omega) | (rw [if_neg (by omega)]; omega) | rw [if_pos (by omega)] | rw [if_neg (by omega)]) (trivial)
            refine tb_ne (x := (r225 % 2)) (y := 1) rfl rfl (by omega) (fun h279 => ?_) (fun h279 => ?_)
            · show tt Zi d 173 (315, [some (.inr (.inl 30)), some (.inl x), some (.inl y), some (.inl p_), some (.inl r34), some (.inl j39), some (.inl 0), some (.inl (s46 3053)), some (.inl r225), none], [], n, D, s224, p, c) _
              refine tt_k 1 (S' := (316, [some (.inr (.inl 30)), some (.inl x), some (.inl y), some (.inl p_), some (.inl r34), some (.inl j39), some (.inl 0), some (.inl (s46 3053)), some (.inl r225), none], [.inl 0], n, D, s224, p, c)) rfl ?_
              exact K263 0  (by omega) (by omega) (trivial)
            · show tt Zi d 173 (311, [some (.inr (.inl 30)), some (.inl x), some (.inl y), some (.inl p_), some (.inl r34), some (.inl j39), some (.inl 0), some (.inl (s46 3053)), some (.inl r225), none], [], n, D, s224, p, c) _
              refine tt_k 2 (S' := (316, [some (.inr (.inl 30)), some (.inl x), some (.inl y), some (.inl p_), some (.inl r34), some (.inl j39), some (.inl 0), some (.inl (s46 3053)), some (.inl r225), none], [.inl 1], n, D, s224, p, c)) rfl ?_
              exact K263 1  (by omega) (by omega) (trivial)
        · exfalso; omega
      refine tz_ne (x := (s 3018)) rfl rfl (by omega) (fun h280 => ?_) (fun h280 => ?_)
      · show tt Zi d 173 (181, [some (.inr (.inl 30)), some (.inl x), some (.inl y), some (.inl p_), some (.inl r34), none, none, none, none, none], [], n, D, (us (us s 3045 j12) 3045 ((max 0 (min (s 3017) j19)))), p, c) _
        refine tt_k 1 (S' := (182, [some (.inr (.inl 30)), some (.inl x), some (.inl y), some (.inl p_), some (.inl r34), none, none, none, none, none], [.inl 0], n, D, (us (us s 3045 j12) 3045 ((max 0 (min (s 3017) j19)))), p, c)) rfl ?_
        exact K40 0  (by omega) (by first | rw [if_pos (by omega)] | rw [if_neg (by omega)]) (trivial)
      · show tt Zi d 173 (154, [some (.inr (.inl 30)), some (.inl x), some (.inl y), some (.inl p_), some (.inl r34), none, none, none, none, none], [], n, D, (us (us s 3045 j12) 3045 ((max 0 (min (s 3017) j19)))), p, c) _
        refine tt_k 1 (S' := (156, [some (.inr (.inl 30)), some (.inl x), some (.inl y), some (.inl p_), some (.inl r34), none, none, none, none, none], [.inl r34], n, D, (us (us s 3045 j12) 3045 ((max 0 (min (s 3017) j19)))), p, c)) rfl ?_
        refine tz_ne (x := r34) rfl rfl (by omega) (fun h281 => ?_) (fun h281 => ?_)
        · show tt Zi d 173 (181, [some (.inr (.inl 30)), some (.inl x), some (.inl y), some (.inl p_), some (.inl r34), none, none, none, none, none], [], n, D, (us (us s 3045 j12) 3045 ((max 0 (min (s 3017) j19)))), p, c) _
          refine tt_k 1 (S' := (182, [some (.inr (.inl 30)), some (.inl x), some (.inl y), some (.inl p_), some (.inl r34), none, none, none, none, none], [.inl 0], n, D, (us (us s 3045 j12) 3045 ((max 0 (min (s 3017) j19)))), p, c)) rfl ?_
          exact K40 0  (by omega) (by first | rw [if_pos (by omega)] | rw [if_neg (by omega)]) (trivial)
        · show tt Zi d 173 (159, [some (.inr (.inl 30)), some (.inl x), some (.inl y), some (.inl p_), some (.inl r34), none, none, none, none, none], [], n, D, (us (us s 3045 j12) 3045 ((max 0 (min (s 3017) j19)))), p, c) _
          refine tt_k 4 (S' := (165, [some (.inr (.inl 30)), some (.inl x), some (.inl y), some (.inl p_), some (.inl r34), none, none, none, none, none], [.inl p_, .inr (.inl 37), .inl 2], n, D, (us (us s 3045 j12) 3045 ((max 0 (min (s 3017) j19)))), p, c)) rfl ?_
          refine tt_ildv (i := p_) (v := (c 37 (p_).toNat)) rfl rfl (by omega) rfl ?_
          show tt Zi d 173 (166, [some (.inr (.inl 30)), some (.inl x), some (.inl y), some (.inl p_), some (.inl r34), none, none, none, none, none], [.inl (c 37 (p_).toNat), .inl 2], n, D, (us (us s 3045 j12) 3045 ((max 0 (min (s 3017) j19)))), p, c) _
          have b282 : -2147483648 ≤ (c 37 (p_).toNat) ∧ (c 37 (p_).toNat) ≤ 2147483647 := hC 37 _
          refine tt_k 4 (S' := (172, [some (.inr (.inl 30)), some (.inl x), some (.inl y), some (.inl p_), some (.inl r34), none, none, none, none, none], [.inl p_, .inr (.inl 39), .inl ((2 * (c 37 (p_).toNat)))], n, D, (us (us s 3045 j12) 3045 ((max 0 (min (s 3017) j19)))), p, c)) rfl ?_
          refine tt_ildv (i := p_) (v := (c 39 (p_).toNat)) rfl rfl (by omega) rfl ?_
          show tt Zi d 173 (173, [some (.inr (.inl 30)), some (.inl x), some (.inl y), some (.inl p_), some (.inl r34), none, none, none, none, none], [.inl (c 39 (p_).toNat), .inl ((2 * (c 37 (p_).toNat)))], n, D, (us (us s 3045 j12) 3045 ((max 0 (min (s 3017) j19)))), p, c) _
          refine tt_k 1 (S' := (174, [some (.inr (.inl 30)), some (.inl x), some (.inl y), some (.inl p_), some (.inl r34), none, none, none, none, none], [.inl ((-(c 39 (p_).toNat))), .inl ((2 * (c 37 (p_).toNat)))], n, D, (us (us s 3045 j12) 3045 ((max 0 (min (s 3017) j19)))), p, c)) rfl ?_
          refine tb_gt (x := (2 * (c 37 (p_).toNat))) (y := (-(c 39 (p_).toNat))) rfl rfl (by omega) (fun h283 => ?_) (fun h283 => ?_)
          · show tt Zi d 173 (181, [some (.inr (.inl 30)), some (.inl x), some (.inl y), some (.inl p_), some (.inl r34), none, none, none, none, none], [], n, D, (us (us s 3045 j12) 3045 ((max 0 (min (s 3017) j19)))), p, c) _
            refine tt_k 1 (S' := (182, [some (.inr (.inl 30)), some (.inl x), some (.inl y), some (.inl p_), some (.inl r34), none, none, none, none, none], [.inl 0], n, D, (us (us s 3045 j12) 3045 ((max 0 (min (s 3017) j19)))), p, c)) rfl ?_
            exact K40 0  (by omega) (by first | rw [if_pos (by omega)] | rw [if_neg (by omega)]) (trivial)
          · show tt Zi d 173 (177, [some (.inr (.inl 30)), some (.inl x), some (.inl y), some (.inl p_), some (.inl r34), none, none, none, none, none], [], n, D, (us (us s 3045 j12) 3045 ((max 0 (min (s 3017) j19)))), p, c) _
            refine tt_k 2 (S' := (182, [some (.inr (.inl 30)), some (.inl x), some (.inl y), some (.inl p_), some (.inl r34), none, none, none, none, none], [.inl 1], n, D, (us (us s 3045 j12) 3045 ((max 0 (min (s 3017) j19)))), p, c)) rfl ?_
            exact K40 1  (by omega) (by first | rw [if_pos (by omega)] | rw [if_neg (by omega)]) (trivial)
    refine tz_eq (x := (s 3046)) rfl rfl (by omega) (fun h284 => ?_) (fun h284 => ?_)
    · show tt Zi d 173 (109, [some (.inr (.inl 30)), some (.inl x), some (.inl y), some (.inl p_), none, none, none, none, none, none], [.inl (s 3017), .inl 0, .inr (.inl 30)], n, D, (us s 3045 j12), p, c) _
      refine tt_k 5 (S' := (118, [some (.inr (.inl 30)), some (.inl x), some (.inl y), some (.inl p_), none, none, none, none, none, none], [.inl p_, .inr (.inl 38), .inl j12, .inl (s 3017), .inl 0, .inr (.inl 30)], n, D, (us s 3045 j12), p, c)) rfl ?_
      refine tt_ildv (i := p_) (v := (c 38 (p_).toNat)) rfl rfl (by omega) rfl ?_
      show tt Zi d 173 (119, [some (.inr (.inl 30)), some (.inl x), some (.inl y), some (.inl p_), none, none, none, none, none, none], [.inl (c 38 (p_).toNat), .inl j12, .inl (s 3017), .inl 0, .inr (.inl 30)], n, D, (us s 3045 j12), p, c) _
      have b285 : -2147483648 ≤ (c 38 (p_).toNat) ∧ (c 38 (p_).toNat) ≤ 2147483647 := hC 38 _
      refine tt_k 1 (S' := (120, [some (.inr (.inl 30)), some (.inl x), some (.inl y), some (.inl p_), none, none, none, none, none, none], [.inl ((j12 + (c 38 (p_).toNat))), .inl (s 3017), .inl 0, .inr (.inl 30)], n, D, (us s 3045 j12), p, c)) rfl ?_
      exact K20 ((j12 + (c 38 (p_).toNat)))  (by omega) (by (repeat' split) <;> omega) (by omega) (trivial)
    · show tt Zi d 173 (95, [some (.inr (.inl 30)), some (.inl x), some (.inl y), some (.inl p_), none, none, none, none, none, none], [.inl (s 3017), .inl 0, .inr (.inl 30)], n, D, (us s 3045 j12), p, c) _
      refine tt_k 5 (S' := (104, [some (.inr (.inl 30)), some (.inl x), some (.inl y), some (.inl p_), none, none, none, none, none, none], [.inl p_, .inr (.inl 38), .inl j12, .inl (s 3017), .inl 0, .inr (.inl 30)], n, D, (us s 3045 j12), p, c)) rfl ?_
      refine tt_ildv (i := p_) (v := (c 38 (p_).toNat)) rfl rfl (by omega) rfl ?_
      show tt Zi d 173 (105, [some (.inr (.inl 30)), some (.inl x), some (.inl y), some (.inl p_), none, none, none, none, none, none], [.inl (c 38 (p_).toNat), .inl j12, .inl (s 3017), .inl 0, .inr (.inl 30)], n, D, (us s 3045 j12), p, c) _
      have b286 : -2147483648 ≤ (c 38 (p_).toNat) ∧ (c 38 (p_).toNat) ≤ 2147483647 := hC 38 _
      refine tt_k 2 (S' := (120, [some (.inr (.inl 30)), some (.inl x), some (.inl y), some (.inl p_), none, none, none, none, none, none], [.inl ((j12 - (c 38 (p_).toNat))), .inl (s 3017), .inl 0, .inr (.inl 30)], n, D, (us s 3045 j12), p, c)) rfl ?_
      exact K20 ((j12 - (c 38 (p_).toNat)))  (by omega) (by (repeat' split) <;> omega) (by omega) (trivial)
  refine tb_lt (x := (s 3043)) (y := (max (s 3041) (s 3042))) rfl rfl (by omega) (fun h287 => ?_) (fun h287 => ?_)
  · show tt Zi d 173 (33, [some (.inr (.inl 30)), some (.inl x), some (.inl y), some (.inl p_), none, none, none, none, none, none], [.inr (.inl 30)], n, D, s, p, c) _
    refine tt_k 6 (S' := (45, [some (.inr (.inl 30)), some (.inl x), some (.inl y), some (.inl p_), none, none, none, none, none, none], [.inl (s 3042), .inl (s 3041), .inl (s 3043), .inr (.inl 30)], n, D, s, p, c)) rfl ?_
    refine tt_cl (by omega) rfl (k_less (Zi := Zi) (D := D) (s := s) (p := p) (c := c) (by omega) hS hC (s 3041) (s 3042) (by omega) (by omega)) ?_
    rintro _ _ ⟨r288, rfl, rfl, b289, k290⟩
    show tt Zi d 173 (48, [some (.inr (.inl 30)), some (.inl x), some (.inl y), some (.inl p_), none, none, none, none, none, none], [.inl r288, .inl (s 3043), .inr (.inl 30)], n, D, s, p, c) _
    replace k290 : r288 = min (s 3041) (s 3042) := k290
    subst k290
    show tt Zi d 173 (48, [some (.inr (.inl 30)), some (.inl x), some (.inl y), some (.inl p_), none, none, none, none, none, none], [.inl (min (s 3041) (s 3042)), .inl (s 3043), .inr (.inl 30)], n, D, s, p, c) _
    refine tb_gt (x := (s 3043)) (y := (min (s 3041) (s 3042))) rfl rfl (by omega) (fun h291 => ?_) (fun h291 => ?_)
    · show tt Zi d 173 (65, [some (.inr (.inl 30)), some (.inl x), some (.inl y), some (.inl p_), none, none, none, none, none, none], [.inr (.inl 30)], n, D, s, p, c) _
      refine tt_k 8 (S' := (79, [some (.inr (.inl 30)), some (.inl x), some (.inl y), some (.inl p_), none, none, none, none, none, none], [.inl ((((s 3041) + (s 3042)) - (s 3043))), .inr (.inl 30)], n, D, s, p, c)) rfl ?_
      exact K13 ((((s 3041) + (s 3042)) - (s 3043)))  (by omega) (by unfold fP; (repeat' split) <;> omega) (by omega) (trivial)
    · show tt Zi d 173 (51, [some (.inr (.inl 30)), some (.inl x), some (.inl y), some (.inl p_), none, none, none, none, none, none], [.inr (.inl 30)], n, D, s, p, c) _
      refine tt_k 4 (S' := (59, [some (.inr (.inl 30)), some (.inl x), some (.inl y), some (.inl p_), none, none, none, none, none, none], [.inl (s 3042), .inl (s 3041), .inr (.inl 30)], n, D, s, p, c)) rfl ?_
      refine tt_cl (by omega) rfl (k_more (Zi := Zi) (D := D) (s := s) (p := p) (c := c) (by omega) hS hC (s 3041) (s 3042) (by omega) (by omega)) ?_
      rintro _ _ ⟨r292, rfl, rfl, b293, k294⟩
      show tt Zi d 173 (62, [some (.inr (.inl 30)), some (.inl x), some (.inl y), some (.inl p_), none, none, none, none, none, none], [.inl r292, .inr (.inl 30)], n, D, s, p, c) _
      replace k294 : r292 = max (s 3041) (s 3042) := k294
      subst k294
      show tt Zi d 173 (62, [some (.inr (.inl 30)), some (.inl x), some (.inl y), some (.inl p_), none, none, none, none, none, none], [.inl (max (s 3041) (s 3042)), .inr (.inl 30)], n, D, s, p, c) _
      refine tt_k 1 (S' := (79, [some (.inr (.inl 30)), some (.inl x), some (.inl y), some (.inl p_), none, none, none, none, none, none], [.inl (max (s 3041) (s 3042)), .inr (.inl 30)], n, D, s, p, c)) rfl ?_
      exact K13 (max (s 3041) (s 3042))  (by omega) (by unfold fP; (repeat' split) <;> omega) (by omega) (trivial)
  · show tt Zi d 173 (19, [some (.inr (.inl 30)), some (.inl x), some (.inl y), some (.inl p_), none, none, none, none, none, none], [.inr (.inl 30)], n, D, s, p, c) _
    refine tt_k 4 (S' := (27, [some (.inr (.inl 30)), some (.inl x), some (.inl y), some (.inl p_), none, none, none, none, none, none], [.inl (s 3042), .inl (s 3041), .inr (.inl 30)], n, D, s, p, c)) rfl ?_
    refine tt_cl (by omega) rfl (k_less (Zi := Zi) (D := D) (s := s) (p := p) (c := c) (by omega) hS hC (s 3041) (s 3042) (by omega) (by omega)) ?_
    rintro _ _ ⟨r295, rfl, rfl, b296, k297⟩
    show tt Zi d 173 (30, [some (.inr (.inl 30)), some (.inl x), some (.inl y), some (.inl p_), none, none, none, none, none, none], [.inl r295, .inr (.inl 30)], n, D, s, p, c) _
    replace k297 : r295 = min (s 3041) (s 3042) := k297
    subst k297
    show tt Zi d 173 (30, [some (.inr (.inl 30)), some (.inl x), some (.inl y), some (.inl p_), none, none, none, none, none, none], [.inl (min (s 3041) (s 3042)), .inr (.inl 30)], n, D, s, p, c) _
    refine tt_k 1 (S' := (79, [some (.inr (.inl 30)), some (.inl x), some (.inl y), some (.inl p_), none, none, none, none, none, none], [.inl (min (s 3041) (s 3042)), .inr (.inl 30)], n, D, s, p, c)) rfl ?_
    exact K13 (min (s 3041) (s 3042))  (by omega) (by unfold fP; (repeat' split) <;> omega) (by omega) (trivial)
