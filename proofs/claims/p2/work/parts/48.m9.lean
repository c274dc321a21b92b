/-! the reference tells a sample of a place -/
set_option maxRecDepth 100000 in
set_option maxHeartbeats 4000000 in
theorem k_regT {Zi : Nat → Option (Nat × (Nat → Int))} {d n : Nat} {D : Nat → Nat × Nat} {s : Nat → Int} {p : Nat → Nat} {c : Nat → Nat → Int} (hd : 4 ≤ d) (hS : bS s) (hC : bC D c) (t : Int) (Bd : Int) (x : Int) (y : Int) (p_ : Int) (b_x : 0 ≤ x ∧ x ≤ 63) (b_y : 0 ≤ y ∧ y ≤ 63) (b_p_ : 0 ≤ p_ ∧ p_ ≤ 364) (hp0 : mv s) (hp1 : s 3036 = 1 ∧ s 3050 = 0 ∧ x < s 3037) (hp2 : (0 ≤ s 3041 ∧ s 3041 ≤ s 3017) ∧ (0 ≤ s 3042 ∧ s 3042 ≤ s 3017) ∧ (0 ≤ s 3043 ∧ s 3043 ≤ s 3017)) (hp3 : pl s t c) (hp4 : 0 ≤ t ∧ t ≤ 4095) (hp5 : w_ok (s 3047) (s 3048)) (hp6 : 4096 * w_u (s 3016) (s 3047) (s 3048) + pot s c ≤ Bd ∧ Bd + cb s ≤ 17179869184) (hp7 : c 31 (s 3039 + 64 * y + x).toNat ≤ s 3017) (hp8 : tb (s 3037) (s 3039) (s 3017) (c 44) x y) : tt Zi d 173 (0, [some (.inr (.inl 30)), some (.inl x), some (.inl y), some (.inl p_), none, none, none, none, none, none], [], n, D, s, p, c) (fun R H => ∃ (s' : Nat → Int) (c' : Nat → Nat → Int), R = .inl none ∧ H = (n, D, s', p, c') ∧ bS s' ∧ bC D c' ∧ fr s s' [3016, 3045, 3047, 3048] ∧ frc c c' [35, 36, 37, 38, 39, 44] ∧ (w_ok (s' 3047) (s' 3048)) ∧ (4096 * w_u (s' 3016) (s' 3047) (s' 3048) + pot s' c' ≤ Bd + cb s) ∧ (pl s' (t + 1) c') ∧ (tb (s' 3037) (s' 3039) (s' 3017) (c' 44) (x + 1) y) ∧ (s 3016 ≤ s' 3016)) := by
  have mvx := mv_fx hp0
  have hi := hp3 (p_).toNat (by omega)
  have hb := pl_bd hp0 (by omega) hi
  refine tt_k 7 (S' := (13, [some (.inr (.inl 30)), some (.inl x), some (.inl y), some (.inl p_), none, none, none, none, none, none], [.inl (s 3042), .inl (s 3041), .inl (s 3043), .inr (.inl 30)], n, D, s, p, c)) rfl ?_
  have b1 : 0 ≤ (s 3041) ∧ (s 3041) ≤ 65535 := hS 3041
  have b2 : 0 ≤ (s 3042) ∧ (s 3042) ≤ 65535 := hS 3042
  refine tt_cl (by omega) rfl (k_more (Zi := Zi) (D := D) (s := s) (p := p) (c := c) (by omega) hS hC (s 3041) (s 3042) (by omega) (by omega)) ?_
  rintro _ _ ⟨r3, rfl, rfl, b4, k5⟩
  show tt Zi d 173 (16, [some (.inr (.inl 30)), some (.inl x), some (.inl y), some (.inl p_), none, none, none, none, none, none], [.inl r3, .inl (s 3043), .inr (.inl 30)], n, D, s, p, c) _
  have k5 : r3 = max (s 3041) (s 3042) := k5
  subst k5
  show tt Zi d 173 (16, [some (.inr (.inl 30)), some (.inl x), some (.inl y), some (.inl p_), none, none, none, none, none, none], [.inl (max (s 3041) (s 3042)), .inl (s 3043), .inr (.inl 30)], n, D, s, p, c) _
  have b6 : 0 ≤ (s 3043) ∧ (s 3043) ≤ 65535 := hS 3043
  have K8 : ∀ (j7 : Int) , (-2147483648 ≤ j7 ∧ j7 ≤ 2147483647) → (((s 3043) < (max (s 3041) (s 3042)) ∧ (min (s 3041) (s 3042)) < (s 3043) ∧ j7 = (((s 3041) + (s 3042)) - (s 3043))) ∨ ((s 3043) < (max (s 3041) (s 3042)) ∧ (s 3043) ≤ (min (s 3041) (s 3042)) ∧ j7 = (max (s 3041) (s 3042))) ∨ ((max (s 3041) (s 3042)) ≤ (s 3043) ∧ j7 = (min (s 3041) (s 3042)))) → tt Zi d 173 (79, [some (.inr (.inl 30)), some (.inl x), some (.inl y), some (.inl p_), none, none, none, none, none, none], [.inl j7, .inr (.inl 30)], n, D, s, p, c) (fun R H => ∃ (s' : Nat → Int) (c' : Nat → Nat → Int), R = .inl none ∧ H = (n, D, s', p, c') ∧ bS s' ∧ bC D c' ∧ fr s s' [3016, 3045, 3047, 3048] ∧ frc c c' [35, 36, 37, 38, 39, 44] ∧ (w_ok (s' 3047) (s' 3048)) ∧ (4096 * w_u (s' 3016) (s' 3047) (s' 3048) + pot s' c' ≤ Bd + cb s) ∧ (pl s' (t + 1) c') ∧ (tb (s' 3037) (s' 3039) (s' 3017) (c' 44) (x + 1) y) ∧ (s 3016 ≤ s' 3016)) := by
    intro j7 b10 hj9
    refine tt_k 7 (S' := (92, [some (.inr (.inl 30)), some (.inl x), some (.inl y), some (.inl p_), none, none, none, none, none, none], [.inl (s 3046), .inl (s 3017), .inl 0, .inr (.inl 30)], n, D, (us s 3045 j7), p, c)) rfl ?_
    have b11 : 0 ≤ (s 3046) ∧ (s 3046) ≤ 1 := hS 3046
    have K13 : ∀ (j12 : Int) , (-4294967296 ≤ j12 ∧ j12 ≤ 4294967295) → (((s 3046) = 0 ∧ j12 = (j7 + (c 38 (p_).toNat))) ∨ ((s 3046) ≠ 0 ∧ j12 = (j7 - (c 38 (p_).toNat)))) → tt Zi d 173 (120, [some (.inr (.inl 30)), some (.inl x), some (.inl y), some (.inl p_), none, none, none, none, none, none], [.inl j12, .inl (s 3017), .inl 0, .inr (.inl 30)], n, D, (us s 3045 j7), p, c) (fun R H => ∃ (s' : Nat → Int) (c' : Nat → Nat → Int), R = .inl none ∧ H = (n, D, s', p, c') ∧ bS s' ∧ bC D c' ∧ fr s s' [3016, 3045, 3047, 3048] ∧ frc c c' [35, 36, 37, 38, 39, 44] ∧ (w_ok (s' 3047) (s' 3048)) ∧ (4096 * w_u (s' 3016) (s' 3047) (s' 3048) + pot s' c' ≤ Bd + cb s) ∧ (pl s' (t + 1) c') ∧ (tb (s' 3037) (s' 3039) (s' 3017) (c' 44) (x + 1) y) ∧ (s 3016 ≤ s' 3016)) := by
      intro j12 b15 hj14
      have b16 : 0 ≤ (s 3017) ∧ (s 3017) ≤ 65535 := hS 3017
      refine tt_cl (by omega) rfl (k_less (Zi := Zi) (D := D) (s := (us s 3045 j7)) (p := p) (c := c) (by omega) (bS_us hS (show -65535 ≤ j7 ∧ j7 ≤ 131070 by omega)) hC (s 3017) j12 (by omega) (by omega)) ?_
      rintro _ _ ⟨r17, rfl, rfl, b18, k19⟩
      show tt Zi d 173 (123, [some (.inr (.inl 30)), some (.inl x), some (.inl y), some (.inl p_), none, none, none, none, none, none], [.inl r17, .inl 0, .inr (.inl 30)], n, D, (us s 3045 j7), p, c) _
      have k19 : r17 = min (s 3017) j12 := k19
      subst k19
      show tt Zi d 173 (123, [some (.inr (.inl 30)), some (.inl x), some (.inl y), some (.inl p_), none, none, none, none, none, none], [.inl (min (s 3017) j12), .inl 0, .inr (.inl 30)], n, D, (us s 3045 j7), p, c) _
      refine tt_cl (by omega) rfl (k_more (Zi := Zi) (D := D) (s := (us s 3045 j7)) (p := p) (c := c) (by omega) (bS_us hS (show -65535 ≤ j7 ∧ j7 ≤ 131070 by omega)) hC 0 (min (s 3017) j12) (by omega) (by omega)) ?_
      rintro _ _ ⟨r20, rfl, rfl, b21, k22⟩
      show tt Zi d 173 (126, [some (.inr (.inl 30)), some (.inl x), some (.inl y), some (.inl p_), none, none, none, none, none, none], [.inl r20, .inr (.inl 30)], n, D, (us s 3045 j7), p, c) _
      have k22 : r20 = max 0 (min (s 3017) j12) := k22
      subst k22
      show tt Zi d 173 (126, [some (.inr (.inl 30)), some (.inl x), some (.inl y), some (.inl p_), none, none, none, none, none, none], [.inl ((max 0 (min (s 3017) j12))), .inr (.inl 30)], n, D, (us s 3045 j7), p, c) _
      refine tt_k 5 (S' := (135, [some (.inr (.inl 30)), some (.inl x), some (.inl y), some (.inl p_), none, none, none, none, none, none], [.inl p_, .inr (.inl 36), .inr (.inl 30)], n, D, (us (us s 3045 j7) 3045 ((max 0 (min (s 3017) j12)))), p, c)) rfl ?_
      refine tt_ildv (i := p_) (v := (c 36 (p_).toNat)) rfl rfl (by omega) rfl ?_
      show tt Zi d 173 (136, [some (.inr (.inl 30)), some (.inl x), some (.inl y), some (.inl p_), none, none, none, none, none, none], [.inl (c 36 (p_).toNat), .inr (.inl 30)], n, D, (us (us s 3045 j7) 3045 ((max 0 (min (s 3017) j12)))), p, c) _
      have b23 : -2147483648 ≤ (c 36 (p_).toNat) ∧ (c 36 (p_).toNat) ≤ 2147483647 := hC 36 _
      refine tt_k 3 (S' := (141, [some (.inr (.inl 30)), some (.inl x), some (.inl y), some (.inl p_), none, none, none, none, none, none], [.inl p_, .inr (.inl 39), .inl (c 36 (p_).toNat), .inr (.inl 30)], n, D, (us (us s 3045 j7) 3045 ((max 0 (min (s 3017) j12)))), p, c)) rfl ?_
      refine tt_ildv (i := p_) (v := (c 39 (p_).toNat)) rfl rfl (by omega) rfl ?_
      show tt Zi d 173 (142, [some (.inr (.inl 30)), some (.inl x), some (.inl y), some (.inl p_), none, none, none, none, none, none], [.inl (c 39 (p_).toNat), .inl (c 36 (p_).toNat), .inr (.inl 30)], n, D, (us (us s 3045 j7) 3045 ((max 0 (min (s 3017) j12)))), p, c) _
      have b24 : -2147483648 ≤ (c 39 (p_).toNat) ∧ (c 39 (p_).toNat) ≤ 2147483647 := hC 39 _
      refine tt_cl (by omega) rfl (k_exponent (Zi := Zi) (D := D) (s := (us (us s 3045 j7) 3045 ((max 0 (min (s 3017) j12))))) (p := p) (c := c) (by omega) (bS_us (bS_us hS (show -65535 ≤ j7 ∧ j7 ≤ 131070 by omega)) (show -65535 ≤ (max 0 (min (s 3017) j12)) ∧ (max 0 (min (s 3017) j12)) ≤ 131070 by omega)) hC (c 36 (p_).toNat) (c 39 (p_).toNat) (by omega) (by omega)) ?_
      rintro _ _ ⟨r25, rfl, rfl, b26, k27, k28⟩
      show tt Zi d 173 (145, [some (.inr (.inl 30)), some (.inl x), some (.inl y), some (.inl p_), none, none, none, none, none, none], [.inl r25], n, D, (us (us s 3045 j7) 3045 ((max 0 (min (s 3017) j12)))), p, c) _
      have k27 : (c 36 (p_).toNat) ≤ (c 39 (p_).toNat) * 2 ^ r25.toNat := k27
      have k28 : r25 = 0 ∨ (c 39 (p_).toNat) * 2 ^ (r25 - 1).toNat < (c 36 (p_).toNat) := k28
      refine tt_k 3 (S' := (151, [some (.inr (.inl 30)), some (.inl x), some (.inl y), some (.inl p_), some (.inl r25), none, none, none, none, none], [.inl (s 3018)], n, D, (us (us s 3045 j7) 3045 ((max 0 (min (s 3017) j12)))), p, c)) rfl ?_
      have b29 : -2147483648 ≤ (s 3018) ∧ (s 3018) ≤ 2147483647 := hS 3018
      have K31 : ∀ (j30 : Int) , (0 ≤ j30 ∧ j30 ≤ 1) → (((s 3018) ≠ 0 ∧ j30 = 0) ∨ ((s 3018) = 0 ∧ r25 ≠ 0 ∧ j30 = 0) ∨ ((s 3018) = 0 ∧ r25 = 0 ∧ (-(c 39 (p_).toNat)) < (2 * (c 37 (p_).toNat)) ∧ j30 = 0) ∨ ((s 3018) = 0 ∧ r25 = 0 ∧ (2 * (c 37 (p_).toNat)) ≤ (-(c 39 (p_).toNat)) ∧ j30 = 1)) → tt Zi d 173 (182, [some (.inr (.inl 30)), some (.inl x), some (.inl y), some (.inl p_), some (.inl r25), none, none, none, none, none], [.inl j30], n, D, (us (us s 3045 j7) 3045 ((max 0 (min (s 3017) j12)))), p, c) (fun R H => ∃ (s' : Nat → Int) (c' : Nat → Nat → Int), R = .inl none ∧ H = (n, D, s', p, c') ∧ bS s' ∧ bC D c' ∧ fr s s' [3016, 3045, 3047, 3048] ∧ frc c c' [35, 36, 37, 38, 39, 44] ∧ (w_ok (s' 3047) (s' 3048)) ∧ (4096 * w_u (s' 3016) (s' 3047) (s' 3048) + pot s' c' ≤ Bd + cb s) ∧ (pl s' (t + 1) c') ∧ (tb (s' 3037) (s' 3039) (s' 3017) (c' 44) (x + 1) y) ∧ (s 3016 ≤ s' 3016)) := by
        intro j30 b33 hj32
        refine tt_k 5 (S' := (191, [some (.inr (.inl 30)), some (.inl x), some (.inl y), some (.inl p_), some (.inl r25), some (.inl j30), some (.inl 0), none, none, none], [.inl (s 3036)], n, D, (us (us s 3045 j7) 3045 ((max 0 (min (s 3017) j12)))), p, c)) rfl ?_
        have b34 : 0 ≤ (s 3036) ∧ (s 3036) ≤ 1 := hS 3036
        refine tz_eq (x := (s 3036)) rfl rfl (by omega) (fun h35 => ?_) (fun h35 => ?_)
        · exfalso; omega
        · show tt Zi d 173 (194, [some (.inr (.inl 30)), some (.inl x), some (.inl y), some (.inl p_), some (.inl r25), some (.inl j30), some (.inl 0), none, none, none], [], n, D, (us (us s 3045 j7) 3045 ((max 0 (min (s 3017) j12)))), p, c) _
          refine tt_k 11 (S' := (210, [some (.inr (.inl 30)), some (.inl x), some (.inl y), some (.inl p_), some (.inl r25), some (.inl j30), some (.inl 0), none, none, none], [.inl ((((s 3039) + (64 * y)) + x)), .inr (.inl 31), .inr (.inl 30)], n, D, (us (us s 3045 j7) 3045 ((max 0 (min (s 3017) j12)))), p, c)) rfl ?_
          have b36 : 0 ≤ (s 3039) ∧ (s 3039) ≤ 8192 := hS 3039
          refine tt_ildv (i := (((s 3039) + (64 * y)) + x)) (v := (c 31 ((((s 3039) + (64 * y)) + x)).toNat)) rfl rfl (by omega) rfl ?_
          show tt Zi d 173 (211, [some (.inr (.inl 30)), some (.inl x), some (.inl y), some (.inl p_), some (.inl r25), some (.inl j30), some (.inl 0), none, none, none], [.inl ((c 31 ((((s 3039) + (64 * y)) + x)).toNat)), .inr (.inl 30)], n, D, (us (us s 3045 j7) 3045 ((max 0 (min (s 3017) j12)))), p, c) _
          have b37 : 0 ≤ (c 31 ((((s 3039) + (64 * y)) + x)).toNat) ∧ (c 31 ((((s 3039) + (64 * y)) + x)).toNat) ≤ 65535 := hC 31 _
          refine tt_cl (by omega) rfl (k_errorOf (Zi := Zi) (D := D) (s := (us (us s 3045 j7) 3045 ((max 0 (min (s 3017) j12))))) (p := p) (c := c) (by omega) (bS_us (bS_us hS (show -65535 ≤ j7 ∧ j7 ≤ 131070 by omega)) (show -65535 ≤ (max 0 (min (s 3017) j12)) ∧ (max 0 (min (s 3017) j12)) ≤ 131070 by omega)) hC ((c 31 ((((s 3039) + (64 * y)) + x)).toNat)) (by omega) (mv_us (by decide) (mv_us (by decide) hp0)) (show ((c 31 ((((s 3039) + (64 * y)) + x)).toNat)) ≤ (s 3017) ∧ 0 ≤ ((max 0 (min (s 3017) j12))) ∧ ((max 0 (min (s 3017) j12))) ≤ (s 3017) by omega)) ?_
          rintro _ _ ⟨r38, rfl, rfl, b39, k40⟩
          show tt Zi d 173 (214, [some (.inr (.inl 30)), some (.inl x), some (.inl y), some (.inl p_), some (.inl r25), some (.inl j30), some (.inl 0), none, none, none], [.inl r38], n, D, (us (us s 3045 j7) 3045 ((max 0 (min (s 3017) j12)))), p, c) _
          have k40 : -((s 3024) / 2) ≤ r38 ∧ r38 ≤ ((s 3024) - 1) / 2 := k40
          have b41 : -2147483648 ≤ (s 3024) ∧ (s 3024) ≤ 2147483647 := hS 3024
          refine tt_k 2 (S' := (218, [some (.inr (.inl 30)), some (.inl x), some (.inl y), some (.inl p_), some (.inl r25), some (.inl j30), some (.inl r38), none, none, none], [.inl r38], n, D, (us (us s 3045 j7) 3045 ((max 0 (min (s 3017) j12)))), p, c)) rfl ?_
          have K43 : ∀ (j42 : Int) , (0 ≤ j42 ∧ j42 ≤ 131073) → ((0 ≤ r38 ∧ j30 = 0 ∧ j42 = (2 * r38)) ∨ (0 ≤ r38 ∧ j30 ≠ 0 ∧ j42 = ((2 * r38) + 1)) ∨ (r38 < 0 ∧ j30 = 0 ∧ j42 = (((-2) * r38) - 1)) ∨ (r38 < 0 ∧ j30 ≠ 0 ∧ j42 = ((-2) * (r38 + 1)))) → tt Zi d 173 (264, [some (.inr (.inl 30)), some (.inl x), some (.inl y), some (.inl p_), some (.inl r25), some (.inl j30), some (.inl r38), none, none, none], [.inl j42], n, D, (us (us s 3045 j7) 3045 ((max 0 (min (s 3017) j12)))), p, c) (fun R H => ∃ (s' : Nat → Int) (c' : Nat → Nat → Int), R = .inl none ∧ H = (n, D, s', p, c') ∧ bS s' ∧ bC D c' ∧ fr s s' [3016, 3045, 3047, 3048] ∧ frc c c' [35, 36, 37, 38, 39, 44] ∧ (w_ok (s' 3047) (s' 3048)) ∧ (4096 * w_u (s' 3016) (s' 3047) (s' 3048) + pot s' c' ≤ Bd + cb s) ∧ (pl s' (t + 1) c') ∧ (tb (s' 3037) (s' 3039) (s' 3017) (c' 44) (x + 1) y) ∧ (s 3016 ≤ s' 3016)) := by
            intro j42 b45 hj44
            refine tt_k 6 (S' := (275, [some (.inr (.inl 30)), some (.inl x), some (.inl y), some (.inl p_), some (.inl r25), some (.inl j30), some (.inl r38), some (.inl j42), none, none], [.inl (s 3026), .inl r25, .inl j42, .inr (.inl 30)], n, D, (us (us s 3045 j7) 3045 ((max 0 (min (s 3017) j12)))), p, c)) rfl ?_
            have hall := reg_all (s := s) (t := t) (c := c) (i := (p_).toNat) (m := j42) (k := r25) (E := (if 0 ≤ r38 then r38 else -r38)) hp0 (by omega) hi (by omega) k27 k28 (by omega) (by omega) (by omega) (by omega) (by omega) rfl
            have hall1 := hall.1
            have b46 : 0 ≤ (s 3026) ∧ (s 3026) ≤ 96 := hS 3026
            have b47 : 0 ≤ (s 3047) ∧ (s 3047) ≤ 255 := hS 3047
            have b48 : 0 ≤ (s 3048) ∧ (s 3048) ≤ 8 := hS 3048
            have b49 : 0 ≤ (s 3016) ∧ (s 3016) ≤ 65536 := hS 3016
            have b50 : 0 ≤ (s 3025) ∧ (s 3025) ≤ 31 := hS 3025
            refine tt_cl (by omega) rfl (k_putNumber (Zi := Zi) (D := D) (s := (us (us s 3045 j7) 3045 ((max 0 (min (s 3017) j12))))) (p := p) (c := c) (by omega) (bS_us (bS_us hS (show -65535 ≤ j7 ∧ j7 ≤ 131070 by omega)) (show -65535 ≤ (max 0 (min (s 3017) j12)) ∧ (max 0 (min (s 3017) j12)) ≤ 131070 by omega)) hC j42 r25 (s 3026) (by omega) (by omega) (by omega) hp5 (show w_u ((s 3016)) ((s 3047)) ((s 3048)) + (if mi_shr j42 r25 < (s 3026) - (s 3025) - 1 then 8 * mi_shr j42 r25 + 9 + 9 * r25 else 8 * ((s 3026) - (s 3025) - 1) + 9 + 9 * (s 3025)) ≤ 4194304 by omega) (show 0 ≤ (s 3026) - (s 3025) - 1 ∧ (s 3026) - (s 3025) - 1 ≤ 64 ∧ (s 3025) ≤ 30 by omega)) ?_
            rintro _ _ ⟨s51, c52, rfl, rfl, hS51, hC52, f53, g54, k55, k56, k57⟩
            have hc58 : mv s51 := mv_fr f53 (by decide) (mv_us (by decide) (mv_us (by decide) hp0))
            show tt Zi d 173 (278, [some (.inr (.inl 30)), some (.inl x), some (.inl y), some (.inl p_), some (.inl r25), some (.inl j30), some (.inl r38), some (.inl j42), none, none], [], n, D, s51, p, c52) _
            have k55 : w_ok ((s51 3047)) ((s51 3048)) := k55
            have k56 : w_u ((s51 3016)) ((s51 3047)) ((s51 3048)) ≤ w_u ((s 3016)) ((s 3047)) ((s 3048)) + (if mi_shr j42 r25 < (s 3026) - (s 3025) - 1 then 8 * mi_shr j42 r25 + 9 + 9 * r25 else 8 * ((s 3026) - (s 3025) - 1) + 9 + 9 * (s 3025)) := k56
            have k57 : (s 3016) ≤ (s51 3016) := k57
            have b59 : 0 ≤ (s51 3047) ∧ (s51 3047) ≤ 255 := hS51 3047
            have b60 : 0 ≤ (s51 3048) ∧ (s51 3048) ≤ 8 := hS51 3048
            have b61 : 0 ≤ (s51 3016) ∧ (s51 3016) ≤ 65536 := hS51 3016
            have e62 : s51 3050 = (s 3050) := (f53 3050 (by decide))
            have b63 : 0 ≤ (s51 3050) ∧ (s51 3050) ≤ 8 := hS51 3050
            have b64 : 0 ≤ (s 3050) ∧ (s 3050) ≤ 8 := hS 3050
            have e65 : s51 3039 = (s 3039) := (f53 3039 (by decide))
            have b66 : 0 ≤ (s51 3039) ∧ (s51 3039) ≤ 8192 := hS51 3039
            have e67 : s51 3017 = (s 3017) := (f53 3017 (by decide))
            have b68 : 0 ≤ (s51 3017) ∧ (s51 3017) ≤ 65535 := hS51 3017
            have e69 : s51 3022 = (s 3022) := (f53 3022 (by decide))
            have b70 : 0 ≤ (s51 3022) ∧ (s51 3022) ≤ 65535 := hS51 3022
            have b71 : 0 ≤ (s 3022) ∧ (s 3022) ≤ 65535 := hS 3022
            have e72 : s51 3023 = (s 3023) := (f53 3023 (by decide))
            have b73 : -2147483648 ≤ (s51 3023) ∧ (s51 3023) ≤ 2147483647 := hS51 3023
            have b74 : -2147483648 ≤ (s 3023) ∧ (s 3023) ≤ 2147483647 := hS 3023
            have e75 : s51 3024 = (s 3024) := (f53 3024 (by decide))
            have b76 : -2147483648 ≤ (s51 3024) ∧ (s51 3024) ≤ 2147483647 := hS51 3024
            have e77 : s51 3025 = (s 3025) := (f53 3025 (by decide))
            have b78 : 0 ≤ (s51 3025) ∧ (s51 3025) ≤ 31 := hS51 3025
            have e79 : s51 3026 = (s 3026) := (f53 3026 (by decide))
            have b80 : 0 ≤ (s51 3026) ∧ (s51 3026) ≤ 96 := hS51 3026
            have e81 : s51 3037 = (s 3037) := (f53 3037 (by decide))
            have b82 : 0 ≤ (s51 3037) ∧ (s51 3037) ≤ 64 := hS51 3037
            have b83 : 0 ≤ (s 3037) ∧ (s 3037) ≤ 64 := hS 3037
            have e84 : s51 3045 = (max 0 (min (s 3017) j12)) := (f53 3045 (by decide))
            have b85 : -65535 ≤ (s51 3045) ∧ (s51 3045) ≤ 131070 := hS51 3045
            refine tt_k 3 (S' := (394, [some (.inr (.inl 30)), some (.inl x), some (.inl y), some (.inl p_), some (.inl r25), some (.inl j30), some (.inl r38), some (.inl j42), none, none], [.inl (s51 3050)], n, D, s51, p, c52)) rfl ?_
            refine tz_le (x := (s51 3050)) rfl rfl (by omega) (fun h86 => ?_) (fun h86 => ?_)
            · show tt Zi d 173 (398, [some (.inr (.inl 30)), some (.inl x), some (.inl y), some (.inl p_), some (.inl r25), some (.inl j30), some (.inl r38), some (.inl j42), none, none], [], n, D, s51, p, c52) _
              refine tt_k 12 (S' := (416, [some (.inr (.inl 30)), some (.inl x), some (.inl y), some (.inl p_), some (.inl r25), some (.inl j30), some (.inl r38), some (.inl j42), none, none], [.inl r38, .inr (.inl 30), .inl ((((s51 3039) + (64 * y)) + x)), .inr (.inl 44)], n, D, s51, p, c52)) rfl ?_
              refine tt_cl (by omega) rfl (k_sampleOf (Zi := Zi) (D := D) (s := s51) (p := p) (c := c52) (by omega) hS51 hC52 r38 (by omega) hc58 (show -65535 ≤ (s51 3045) ∧ (s51 3045) ≤ 131070 by omega)) ?_
              rintro _ _ ⟨r87, rfl, rfl, b88, k89⟩
              show tt Zi d 173 (419, [some (.inr (.inl 30)), some (.inl x), some (.inl y), some (.inl p_), some (.inl r25), some (.inl j30), some (.inl r38), some (.inl j42), none, none], [.inl r87, .inl ((((s51 3039) + (64 * y)) + x)), .inr (.inl 44)], n, D, s51, p, c52) _
              have k89 : 0 ≤ r87 ∧ r87 ≤ (s51 3017) := k89
              refine tt_ist (i := (((s51 3039) + (64 * y)) + x)) (x := r87) rfl rfl (by omega) ?_
              show tt Zi d 173 (420, [some (.inr (.inl 30)), some (.inl x), some (.inl y), some (.inl p_), some (.inl r25), some (.inl j30), some (.inl r38), some (.inl j42), none, none], [], n, D, s51, p, (uc c52 44 (ua (c52 44) ((((s51 3039) + (64 * y)) + x)).toNat r87))) _
              refine tt_k 3 (S' := (424, [some (.inr (.inl 30)), some (.inl x), some (.inl y), some (.inl p_), some (.inl r25), some (.inl j30), some (.inl r38), some (.inl j42), none, none], [.inl r38, .inl p_, .inr (.inl 30)], n, D, s51, p, (uc c52 44 (ua (c52 44) ((((s51 3039) + (64 * y)) + x)).toNat r87)))) rfl ?_
              have z36 : c52 36 = c 36 := g54 36 (by decide)
              have zz36 := congrFun z36 (p_).toNat
              have z37 : c52 37 = c 37 := g54 37 (by decide)
              have zz37 := congrFun z37 (p_).toNat
              have z38 : c52 38 = c 38 := g54 38 (by decide)
              have zz38 := congrFun z38 (p_).toNat
              have z39 : c52 39 = c 39 := g54 39 (by decide)
              have zz39 := congrFun z39 (p_).toNat
              refine tt_cl (by omega) rfl (k_learn (Zi := Zi) (D := D) (s := s51) (p := p) (c := (uc c52 44 (ua (c52 44) ((((s51 3039) + (64 * y)) + x)).toNat r87))) (by omega) hS51 (bC_st hC52 (show 0 ≤ r87 ∧ r87 ≤ 65535 by omega)) p_ r38 (by omega) (by omega) (show 1 ≤ (s51 3023) ∧ (s51 3023) ≤ 511 ∧ 3 ≤ (s51 3022) by omega) (show 0 ≤ (c52 36) p_.toNat ∧ (c52 36) p_.toNat ≤ 300000000 by omega) (show -65536 ≤ (c52 37) p_.toNat ∧ (c52 37) p_.toNat ≤ 65536 by omega) (show -128 ≤ (c52 38) p_.toNat ∧ (c52 38) p_.toNat ≤ 127 by omega) (show 1 ≤ (c52 39) p_.toNat ∧ (c52 39) p_.toNat ≤ 70000 by omega)) ?_
              rintro _ _ ⟨c90, rfl, rfl, hC90, g91, k92, k93, k94, k95, k96, k97, k98, k99⟩
              show tt Zi d 173 (427, [some (.inr (.inl 30)), some (.inl x), some (.inl y), some (.inl p_), some (.inl r25), some (.inl j30), some (.inl r38), some (.inl j42), none, none], [], n, D, s51, p, c90) _
              have k92 : (c90 36) p_.toNat = if (c52 39) p_.toNat = (s51 3022) then ((c52 36) p_.toNat + (if 0 ≤ r38 then r38 else -r38)) / 2 else (c52 36) p_.toNat + (if 0 ≤ r38 then r38 else -r38) := k92
              have k93 : (c90 39) p_.toNat = (if (c52 39) p_.toNat = (s51 3022) then (c52 39) p_.toNat / 2 else (c52 39) p_.toNat) + 1 := k93
              have k94 : 1 - (c90 39) p_.toNat ≤ (c90 37) p_.toNat ∧ (c90 37) p_.toNat ≤ 0 := k94
              have k95 : -128 ≤ (c90 38) p_.toNat ∧ (c90 38) p_.toNat ≤ 127 := k95
              have k96 : ∀ j, j ≠ p_.toNat → (c90 36) j = (c52 36) j := k96
              have k97 : ∀ j, j ≠ p_.toNat → (c90 37) j = (c52 37) j := k97
              have k98 : ∀ j, j ≠ p_.toNat → (c90 38) j = (c52 38) j := k98
              have k99 : ∀ j, j ≠ p_.toNat → (c90 39) j = (c52 39) j := k99
              have xHA : s51 3022 = s 3022 := by omega
              have xQ : s51 3025 = s 3025 := by omega
              have xL : s51 3026 = s 3026 := by omega
              have q36 : c90 36 (p_).toNat = if c 39 (p_).toNat = s 3022 then (c 36 (p_).toNat + (if 0 ≤ r38 then r38 else -r38)) / 2 else c 36 (p_).toNat + (if 0 ≤ r38 then r38 else -r38) := by have hx := k92; simp only [z36, z39, xHA] at hx; exact hx
              have q39 : c90 39 (p_).toNat = (if c 39 (p_).toNat = s 3022 then c 39 (p_).toNat / 2 else c 39 (p_).toNat) + 1 := by have hx := k93; simp only [z39, xHA] at hx; exact hx
              have u36 : ∀ j, j ≠ (p_).toNat → c90 36 j = c 36 j := fun j hj => (k96 j hj).trans (congrFun z36 j)
              have u37 : ∀ j, j ≠ (p_).toNat → c90 37 j = c 37 j := fun j hj => (k97 j hj).trans (congrFun z37 j)
              have u38 : ∀ j, j ≠ (p_).toNat → c90 38 j = c 38 j := fun j hj => (k98 j hj).trans (congrFun z38 j)
              have u39 : ∀ j, j ≠ (p_).toNat → c90 39 j = c 39 j := fun j hj => (k99 j hj).trans (congrFun z39 j)
              have hN4 : c90 39 (p_).toNat ≤ 70000 := by rw [q39]; (try split) <;> omega
              have w44 : c90 44 = (ua (c52 44) ((((s51 3039) + (64 * y)) + x)).toNat r87) := g91 44 (by decide)
              have xW : s51 3037 = s 3037 := by omega
              have xB : s51 3039 = s 3039 := by omega
              have xM : s51 3017 = s 3017 := by omega
              have z44 : c52 44 = c 44 := g54 44 (by decide)
              have hTB : tb (s51 3037) (s51 3039) (s51 3017) (c90 44) (x + 1) y := by rw [w44, z44, xW, xB, xM]; exact tb_next hp8 (by omega) (by omega) (by omega) (by omega) (by omega)
              exact tt_rtv rfl rfl ⟨s51, c90, rfl, rfl, hS51, hC90, (fr_tr (fr_us (by decide) (fr_us (by decide) fr_rf)) f53 (by decide)), (frc_tr (frc_uc (by decide) (frc_tr frc_rf g54 (by decide))) g91 (by decide)), k55, by show 4096 * w_u ((s51 3016)) ((s51 3047)) ((s51 3048)) + pot s51 c90 ≤ Bd + cb s; have ha := hall.2 c90 q36 q39 u36 u39; have hb2 : pot s51 c90 = pot s c90 := pot_eq xQ xL rfl rfl; rw [hb2]; omega, pl_next (s := s) hp0 (by omega) hp3 (by omega) xQ (E := (if 0 ≤ r38 then r38 else -r38)) (by omega) (by omega) q36 q39 (by omega) (by omega) u36 u37 u38 u39, hTB, by show s 3016 ≤ (s51 3016); omega⟩
            · exfalso; omega
          refine tz_ge (x := r38) rfl rfl (by omega) (fun h100 => ?_) (fun h100 => ?_)
          · show tt Zi d 173 (246, [some (.inr (.inl 30)), some (.inl x), some (.inl y), some (.inl p_), some (.inl r25), some (.inl j30), some (.inl r38), none, none, none], [], n, D, (us (us s 3045 j7) 3045 ((max 0 (min (s 3017) j12)))), p, c) _
            refine tt_k 1 (S' := (248, [some (.inr (.inl 30)), some (.inl x), some (.inl y), some (.inl p_), some (.inl r25), some (.inl j30), some (.inl r38), none, none, none], [.inl j30], n, D, (us (us s 3045 j7) 3045 ((max 0 (min (s 3017) j12)))), p, c)) rfl ?_
            refine tz_eq (x := j30) rfl rfl (by omega) (fun h101 => ?_) (fun h101 => ?_)
            · show tt Zi d 173 (260, [some (.inr (.inl 30)), some (.inl x), some (.inl y), some (.inl p_), some (.inl r25), some (.inl j30), some (.inl r38), none, none, none], [], n, D, (us (us s 3045 j7) 3045 ((max 0 (min (s 3017) j12)))), p, c) _
              refine tt_k 3 (S' := (264, [some (.inr (.inl 30)), some (.inl x), some (.inl y), some (.inl p_), some (.inl r25), some (.inl j30), some (.inl r38), none, none, none], [.inl (2 * r38)], n, D, (us (us s 3045 j7) 3045 ((max 0 (min (s 3017) j12)))), p, c)) rfl ?_
              exact K43 (2 * r38)  (by omega) (Or.inl ⟨h100, h101, rfl⟩)
            · show tt Zi d 173 (251, [some (.inr (.inl 30)), some (.inl x), some (.inl y), some (.inl p_), some (.inl r25), some (.inl j30), some (.inl r38), none, none, none], [], n, D, (us (us s 3045 j7) 3045 ((max 0 (min (s 3017) j12)))), p, c) _
              refine tt_k 6 (S' := (264, [some (.inr (.inl 30)), some (.inl x), some (.inl y), some (.inl p_), some (.inl r25), some (.inl j30), some (.inl r38), none, none, none], [.inl ((2 * r38) + 1)], n, D, (us (us s 3045 j7) 3045 ((max 0 (min (s 3017) j12)))), p, c)) rfl ?_
              exact K43 ((2 * r38) + 1)  (by omega) (Or.inr (Or.inl ⟨h100, h101, rfl⟩))
          · show tt Zi d 173 (221, [some (.inr (.inl 30)), some (.inl x), some (.inl y), some (.inl p_), some (.inl r25), some (.inl j30), some (.inl r38), none, none, none], [], n, D, (us (us s 3045 j7) 3045 ((max 0 (min (s 3017) j12)))), p, c) _
            refine tt_k 1 (S' := (223, [some (.inr (.inl 30)), some (.inl x), some (.inl y), some (.inl p_), some (.inl r25), some (.inl j30), some (.inl r38), none, none, none], [.inl j30], n, D, (us (us s 3045 j7) 3045 ((max 0 (min (s 3017) j12)))), p, c)) rfl ?_
            refine tz_eq (x := j30) rfl rfl (by omega) (fun h102 => ?_) (fun h102 => ?_)
            · show tt Zi d 173 (236, [some (.inr (.inl 30)), some (.inl x), some (.inl y), some (.inl p_), some (.inl r25), some (.inl j30), some (.inl r38), none, none, none], [], n, D, (us (us s 3045 j7) 3045 ((max 0 (min (s 3017) j12)))), p, c) _
              refine tt_k 6 (S' := (264, [some (.inr (.inl 30)), some (.inl x), some (.inl y), some (.inl p_), some (.inl r25), some (.inl j30), some (.inl r38), none, none, none], [.inl ((((-2) * r38) - 1))], n, D, (us (us s 3045 j7) 3045 ((max 0 (min (s 3017) j12)))), p, c)) rfl ?_
              exact K43 ((((-2) * r38) - 1))  (by omega) (Or.inr (Or.inr (Or.inl ⟨h100, h102, rfl⟩)))
            · show tt Zi d 173 (226, [some (.inr (.inl 30)), some (.inl x), some (.inl y), some (.inl p_), some (.inl r25), some (.inl j30), some (.inl r38), none, none, none], [], n, D, (us (us s 3045 j7) 3045 ((max 0 (min (s 3017) j12)))), p, c) _
              refine tt_k 6 (S' := (264, [some (.inr (.inl 30)), some (.inl x), some (.inl y), some (.inl p_), some (.inl r25), some (.inl j30), some (.inl r38), none, none, none], [.inl ((-2) * (r38 + 1))], n, D, (us (us s 3045 j7) 3045 ((max 0 (min (s 3017) j12)))), p, c)) rfl ?_
              exact K43 ((-2) * (r38 + 1))  (by omega) (Or.inr (Or.inr (Or.inr (⟨h100, h102, rfl⟩))))
      refine tz_ne (x := (s 3018)) rfl rfl (by omega) (fun h103 => ?_) (fun h103 => ?_)
      · show tt Zi d 173 (181, [some (.inr (.inl 30)), some (.inl x), some (.inl y), some (.inl p_), some (.inl r25), none, none, none, none, none], [], n, D, (us (us s 3045 j7) 3045 ((max 0 (min (s 3017) j12)))), p, c) _
        refine tt_k 1 (S' := (182, [some (.inr (.inl 30)), some (.inl x), some (.inl y), some (.inl p_), some (.inl r25), none, none, none, none, none], [.inl 0], n, D, (us (us s 3045 j7) 3045 ((max 0 (min (s 3017) j12)))), p, c)) rfl ?_
        exact K31 0  (by omega) (Or.inl ⟨h103, rfl⟩)
      · show tt Zi d 173 (154, [some (.inr (.inl 30)), some (.inl x), some (.inl y), some (.inl p_), some (.inl r25), none, none, none, none, none], [], n, D, (us (us s 3045 j7) 3045 ((max 0 (min (s 3017) j12)))), p, c) _
        refine tt_k 1 (S' := (156, [some (.inr (.inl 30)), some (.inl x), some (.inl y), some (.inl p_), some (.inl r25), none, none, none, none, none], [.inl r25], n, D, (us (us s 3045 j7) 3045 ((max 0 (min (s 3017) j12)))), p, c)) rfl ?_
        refine tz_ne (x := r25) rfl rfl (by omega) (fun h104 => ?_) (fun h104 => ?_)
        · show tt Zi d 173 (181, [some (.inr (.inl 30)), some (.inl x), some (.inl y), some (.inl p_), some (.inl r25), none, none, none, none, none], [], n, D, (us (us s 3045 j7) 3045 ((max 0 (min (s 3017) j12)))), p, c) _
          refine tt_k 1 (S' := (182, [some (.inr (.inl 30)), some (.inl x), some (.inl y), some (.inl p_), some (.inl r25), none, none, none, none, none], [.inl 0], n, D, (us (us s 3045 j7) 3045 ((max 0 (min (s 3017) j12)))), p, c)) rfl ?_
          exact K31 0  (by omega) (Or.inr (Or.inl ⟨h103, h104, rfl⟩))
        · show tt Zi d 173 (159, [some (.inr (.inl 30)), some (.inl x), some (.inl y), some (.inl p_), some (.inl r25), none, none, none, none, none], [], n, D, (us (us s 3045 j7) 3045 ((max 0 (min (s 3017) j12)))), p, c) _
          refine tt_k 4 (S' := (165, [some (.inr (.inl 30)), some (.inl x), some (.inl y), some (.inl p_), some (.inl r25), none, none, none, none, none], [.inl p_, .inr (.inl 37), .inl 2], n, D, (us (us s 3045 j7) 3045 ((max 0 (min (s 3017) j12)))), p, c)) rfl ?_
          refine tt_ildv (i := p_) (v := (c 37 (p_).toNat)) rfl rfl (by omega) rfl ?_
          show tt Zi d 173 (166, [some (.inr (.inl 30)), some (.inl x), some (.inl y), some (.inl p_), some (.inl r25), none, none, none, none, none], [.inl (c 37 (p_).toNat), .inl 2], n, D, (us (us s 3045 j7) 3045 ((max 0 (min (s 3017) j12)))), p, c) _
          have b105 : -2147483648 ≤ (c 37 (p_).toNat) ∧ (c 37 (p_).toNat) ≤ 2147483647 := hC 37 _
          refine tt_k 4 (S' := (172, [some (.inr (.inl 30)), some (.inl x), some (.inl y), some (.inl p_), some (.inl r25), none, none, none, none, none], [.inl p_, .inr (.inl 39), .inl ((2 * (c 37 (p_).toNat)))], n, D, (us (us s 3045 j7) 3045 ((max 0 (min (s 3017) j12)))), p, c)) rfl ?_
          refine tt_ildv (i := p_) (v := (c 39 (p_).toNat)) rfl rfl (by omega) rfl ?_
          show tt Zi d 173 (173, [some (.inr (.inl 30)), some (.inl x), some (.inl y), some (.inl p_), some (.inl r25), none, none, none, none, none], [.inl (c 39 (p_).toNat), .inl ((2 * (c 37 (p_).toNat)))], n, D, (us (us s 3045 j7) 3045 ((max 0 (min (s 3017) j12)))), p, c) _
          refine tt_k 1 (S' := (174, [some (.inr (.inl 30)), some (.inl x), some (.inl y), some (.inl p_), some (.inl r25), none, none, none, none, none], [.inl ((-(c 39 (p_).toNat))), .inl ((2 * (c 37 (p_).toNat)))], n, D, (us (us s 3045 j7) 3045 ((max 0 (min (s 3017) j12)))), p, c)) rfl ?_
          refine tb_gt (x := (2 * (c 37 (p_).toNat))) (y := (-(c 39 (p_).toNat))) rfl rfl (by omega) (fun h106 => ?_) (fun h106 => ?_)
          · show tt Zi d 173 (181, [some (.inr (.inl 30)), some (.inl x), some (.inl y), some (.inl p_), some (.inl r25), none, none, none, none, none], [], n, D, (us (us s 3045 j7) 3045 ((max 0 (min (s 3017) j12)))), p, c) _
            refine tt_k 1 (S' := (182, [some (.inr (.inl 30)), some (.inl x), some (.inl y), some (.inl p_), some (.inl r25), none, none, none, none, none], [.inl 0], n, D, (us (us s 3045 j7) 3045 ((max 0 (min (s 3017) j12)))), p, c)) rfl ?_
            exact K31 0  (by omega) (Or.inr (Or.inr (Or.inl ⟨h103, h104, h106, rfl⟩)))
          · show tt Zi d 173 (177, [some (.inr (.inl 30)), some (.inl x), some (.inl y), some (.inl p_), some (.inl r25), none, none, none, none, none], [], n, D, (us (us s 3045 j7) 3045 ((max 0 (min (s 3017) j12)))), p, c) _
            refine tt_k 2 (S' := (182, [some (.inr (.inl 30)), some (.inl x), some (.inl y), some (.inl p_), some (.inl r25), none, none, none, none, none], [.inl 1], n, D, (us (us s 3045 j7) 3045 ((max 0 (min (s 3017) j12)))), p, c)) rfl ?_
            exact K31 1  (by omega) (Or.inr (Or.inr (Or.inr (⟨h103, h104, h106, rfl⟩))))
    refine tz_eq (x := (s 3046)) rfl rfl (by omega) (fun h107 => ?_) (fun h107 => ?_)
    · show tt Zi d 173 (109, [some (.inr (.inl 30)), some (.inl x), some (.inl y), some (.inl p_), none, none, none, none, none, none], [.inl (s 3017), .inl 0, .inr (.inl 30)], n, D, (us s 3045 j7), p, c) _
      refine tt_k 5 (S' := (118, [some (.inr (.inl 30)), some (.inl x), some (.inl y), some (.inl p_), none, none, none, none, none, none], [.inl p_, .inr (.inl 38), .inl j7, .inl (s 3017), .inl 0, .inr (.inl 30)], n, D, (us s 3045 j7), p, c)) rfl ?_
      refine tt_ildv (i := p_) (v := (c 38 (p_).toNat)) rfl rfl (by omega) rfl ?_
      show tt Zi d 173 (119, [some (.inr (.inl 30)), some (.inl x), some (.inl y), some (.inl p_), none, none, none, none, none, none], [.inl (c 38 (p_).toNat), .inl j7, .inl (s 3017), .inl 0, .inr (.inl 30)], n, D, (us s 3045 j7), p, c) _
      have b108 : -2147483648 ≤ (c 38 (p_).toNat) ∧ (c 38 (p_).toNat) ≤ 2147483647 := hC 38 _
      refine tt_k 1 (S' := (120, [some (.inr (.inl 30)), some (.inl x), some (.inl y), some (.inl p_), none, none, none, none, none, none], [.inl ((j7 + (c 38 (p_).toNat))), .inl (s 3017), .inl 0, .inr (.inl 30)], n, D, (us s 3045 j7), p, c)) rfl ?_
      exact K13 ((j7 + (c 38 (p_).toNat)))  (by omega) (Or.inl ⟨h107, rfl⟩)
    · show tt Zi d 173 (95, [some (.inr (.inl 30)), some (.inl x), some (.inl y), some (.inl p_), none, none, none, none, none, none], [.inl (s 3017), .inl 0, .inr (.inl 30)], n, D, (us s 3045 j7), p, c) _
      refine tt_k 5 (S' := (104, [some (.inr (.inl 30)), some (.inl x), some (.inl y), some (.inl p_), none, none, none, none, none, none], [.inl p_, .inr (.inl 38), .inl j7, .inl (s 3017), .inl 0, .inr (.inl 30)], n, D, (us s 3045 j7), p, c)) rfl ?_
      refine tt_ildv (i := p_) (v := (c 38 (p_).toNat)) rfl rfl (by omega) rfl ?_
      show tt Zi d 173 (105, [some (.inr (.inl 30)), some (.inl x), some (.inl y), some (.inl p_), none, none, none, none, none, none], [.inl (c 38 (p_).toNat), .inl j7, .inl (s 3017), .inl 0, .inr (.inl 30)], n, D, (us s 3045 j7), p, c) _
      have b109 : -2147483648 ≤ (c 38 (p_).toNat) ∧ (c 38 (p_).toNat) ≤ 2147483647 := hC 38 _
      refine tt_k 2 (S' := (120, [some (.inr (.inl 30)), some (.inl x), some (.inl y), some (.inl p_), none, none, none, none, none, none], [.inl ((j7 - (c 38 (p_).toNat))), .inl (s 3017), .inl 0, .inr (.inl 30)], n, D, (us s 3045 j7), p, c)) rfl ?_
      exact K13 ((j7 - (c 38 (p_).toNat)))  (by omega) (Or.inr (⟨h107, rfl⟩))
  refine tb_lt (x := (s 3043)) (y := (max (s 3041) (s 3042))) rfl rfl (by omega) (fun h110 => ?_) (fun h110 => ?_)
  · show tt Zi d 173 (33, [some (.inr (.inl 30)), some (.inl x), some (.inl y), some (.inl p_), none, none, none, none, none, none], [.inr (.inl 30)], n, D, s, p, c) _
    refine tt_k 6 (S' := (45, [some (.inr (.inl 30)), some (.inl x), some (.inl y), some (.inl p_), none, none, none, none, none, none], [.inl (s 3042), .inl (s 3041), .inl (s 3043), .inr (.inl 30)], n, D, s, p, c)) rfl ?_
    refine tt_cl (by omega) rfl (k_less (Zi := Zi) (D := D) (s := s) (p := p) (c := c) (by omega) hS hC (s 3041) (s 3042) (by omega) (by omega)) ?_
    rintro _ _ ⟨r111, rfl, rfl, b112, k113⟩
    show tt Zi d 173 (48, [some (.inr (.inl 30)), some (.inl x), some (.inl y), some (.inl p_), none, none, none, none, none, none], [.inl r111, .inl (s 3043), .inr (.inl 30)], n, D, s, p, c) _
    have k113 : r111 = min (s 3041) (s 3042) := k113
    subst k113
    show tt Zi d 173 (48, [some (.inr (.inl 30)), some (.inl x), some (.inl y), some (.inl p_), none, none, none, none, none, none], [.inl (min (s 3041) (s 3042)), .inl (s 3043), .inr (.inl 30)], n, D, s, p, c) _
    refine tb_gt (x := (s 3043)) (y := (min (s 3041) (s 3042))) rfl rfl (by omega) (fun h114 => ?_) (fun h114 => ?_)
    · show tt Zi d 173 (65, [some (.inr (.inl 30)), some (.inl x), some (.inl y), some (.inl p_), none, none, none, none, none, none], [.inr (.inl 30)], n, D, s, p, c) _
      refine tt_k 8 (S' := (79, [some (.inr (.inl 30)), some (.inl x), some (.inl y), some (.inl p_), none, none, none, none, none, none], [.inl ((((s 3041) + (s 3042)) - (s 3043))), .inr (.inl 30)], n, D, s, p, c)) rfl ?_
      exact K8 ((((s 3041) + (s 3042)) - (s 3043)))  (by omega) (Or.inl ⟨h110, h114, rfl⟩)
    · show tt Zi d 173 (51, [some (.inr (.inl 30)), some (.inl x), some (.inl y), some (.inl p_), none, none, none, none, none, none], [.inr (.inl 30)], n, D, s, p, c) _
      refine tt_k 4 (S' := (59, [some (.inr (.inl 30)), some (.inl x), some (.inl y), some (.inl p_), none, none, none, none, none, none], [.inl (s 3042), .inl (s 3041), .inr (.inl 30)], n, D, s, p, c)) rfl ?_
      refine tt_cl (by omega) rfl (k_more (Zi := Zi) (D := D) (s := s) (p := p) (c := c) (by omega) hS hC (s 3041) (s 3042) (by omega) (by omega)) ?_
      rintro _ _ ⟨r115, rfl, rfl, b116, k117⟩
      show tt Zi d 173 (62, [some (.inr (.inl 30)), some (.inl x), some (.inl y), some (.inl p_), none, none, none, none, none, none], [.inl r115, .inr (.inl 30)], n, D, s, p, c) _
      have k117 : r115 = max (s 3041) (s 3042) := k117
      subst k117
      show tt Zi d 173 (62, [some (.inr (.inl 30)), some (.inl x), some (.inl y), some (.inl p_), none, none, none, none, none, none], [.inl (max (s 3041) (s 3042)), .inr (.inl 30)], n, D, s, p, c) _
      refine tt_k 1 (S' := (79, [some (.inr (.inl 30)), some (.inl x), some (.inl y), some (.inl p_), none, none, none, none, none, none], [.inl (max (s 3041) (s 3042)), .inr (.inl 30)], n, D, s, p, c)) rfl ?_
      exact K8 (max (s 3041) (s 3042))  (by omega) (Or.inr (Or.inl ⟨h110, h114, rfl⟩))
  · show tt Zi d 173 (19, [some (.inr (.inl 30)), some (.inl x), some (.inl y), some (.inl p_), none, none, none, none, none, none], [.inr (.inl 30)], n, D, s, p, c) _
    refine tt_k 4 (S' := (27, [some (.inr (.inl 30)), some (.inl x), some (.inl y), some (.inl p_), none, none, none, none, none, none], [.inl (s 3042), .inl (s 3041), .inr (.inl 30)], n, D, s, p, c)) rfl ?_
    refine tt_cl (by omega) rfl (k_less (Zi := Zi) (D := D) (s := s) (p := p) (c := c) (by omega) hS hC (s 3041) (s 3042) (by omega) (by omega)) ?_
    rintro _ _ ⟨r118, rfl, rfl, b119, k120⟩
    show tt Zi d 173 (30, [some (.inr (.inl 30)), some (.inl x), some (.inl y), some (.inl p_), none, none, none, none, none, none], [.inl r118, .inr (.inl 30)], n, D, s, p, c) _
    have k120 : r118 = min (s 3041) (s 3042) := k120
    subst k120
    show tt Zi d 173 (30, [some (.inr (.inl 30)), some (.inl x), some (.inl y), some (.inl p_), none, none, none, none, none, none], [.inl (min (s 3041) (s 3042)), .inr (.inl 30)], n, D, s, p, c) _
    refine tt_k 1 (S' := (79, [some (.inr (.inl 30)), some (.inl x), some (.inl y), some (.inl p_), none, none, none, none, none, none], [.inl (min (s 3041) (s 3042)), .inr (.inl 30)], n, D, s, p, c)) rfl ?_
    exact K8 (min (s 3041) (s 3042))  (by omega) (Or.inr (Or.inr (⟨h110, rfl⟩)))
