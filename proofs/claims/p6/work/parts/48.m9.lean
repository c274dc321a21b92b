/-! the reference tells a sample of a place -/
set_option maxRecDepth 100000 in
set_option maxHeartbeats 4000000 in
theorem k_regT {Zi : Nat → Option (Nat × (Nat → Int))} {d n : Nat} {D : Nat → Nat × Nat} {s : Nat → Int} {p : Nat → Nat} {c : Nat → Nat → Int} (hd : 4 ≤ d) (hS : bS s) (hC : bC D c) (t : Int) (Bd : Int) (x : Int) (y : Int) (p_ : Int) (b_x : 0 ≤ x ∧ x ≤ 63) (b_y : 0 ≤ y ∧ y ≤ 63) (b_p_ : 0 ≤ p_ ∧ p_ ≤ 364) (hp0 : mv s) (hp1 : s 3036 = 1 ∧ s 3050 = 0 ∧ x < s 3037) (hp2 : (0 ≤ s 3041 ∧ s 3041 ≤ s 3017) ∧ (0 ≤ s 3042 ∧ s 3042 ≤ s 3017) ∧ (0 ≤ s 3043 ∧ s 3043 ≤ s 3017)) (hp3 : pl s t c) (hp4 : 0 ≤ t ∧ t ≤ 4095) (hp5 : w_ok (s 3047) (s 3048)) (hp6 : 4096 * w_u (s 3016) (s 3047) (s 3048) + pot s c ≤ Bd ∧ Bd + cb s ≤ 17179869184) (hp7 : c 31 (s 3039 + 64 * y + x).toNat ≤ s 3017) (hp8 : tb (s 3037) (s 3039) (s 3017) (c 44) x y) : tt Zi d 173 (0, [some (.inr (.inl 30)), some (.inl x), some (.inl y), some (.inl p_), none, none, none, none, none, none], [], n, D, s, p, c) (fun R H => ∃ (s' : Nat → Int) (c' : Nat → Nat → Int), R = .inl none ∧ H = (n, D, s', p, c') ∧ bS s' ∧ bC D c' ∧ fr s s' [3016, 3045, 3047, 3048] ∧ frc c c' [35, 36, 37, 38, 39, 44] ∧ (w_ok (s' 3047) (s' 3048)) ∧ (4096 * w_u (s' 3016) (s' 3047) (s' 3048) + pot s' c' ≤ Bd + cb s) ∧ (pl s' (t + 1) c') ∧ (tb (s' 3037) (s' 3039) (s' 3017) (c' 44) (x + 1) y) ∧ (s 3016 ≤ s' 3016)) := by
  have mvx := mv_fx hp0
  have hi := hp3 (p_).toNat (by omega)
  have hb := pl_bd hp0 (by omega) hi
  refine tt_k 7 (S' := (13, [some (.inr (.inl 30)), some (.inl x), some (.inl y), some (.inl p_), none, none, none, none, none, none], [.inl (s 3042), .inl (s 3041), .inl (s 3043), .inr (.inl 30)], n, D, s, p, c)) rfl ?_
  have b1 : 0 ≤ (s 3041) ∧ (s 3041) ≤ 65535 := hS 3041
  have b2 : 0 ≤ (s 3042) ∧ (s 3042) ≤ 65535 := hS 3042
  refine tt_cl (by omega) rfl (k_more (Zi := Zi) (D := D) (s := s) (p := p) (c := c) (by omega) hS hC (s 3041) (s 3042) (by omega) (by omega)) ?_
  rintro _ _ ⟨r3, rfl, rfl, b4, k5⟩
  show tt Zi d 173 (16, [some (.inr (.inl 30)), some (.inl x), some (.inl y), some (.inl p_), none, none, none, none, none, none], [.inl r3, .inl (s 3043), .inr (.inl 30)], n, D, s, p, c) _
  have k5 : r3 = max (s 3041) (s 3042) := k5
  subst k5
  show tt Zi d 173 (16, [some (.inr (.inl 30)), some (.inl x), some (.inl y), some (.inl p_), none, none, none, none, none, none], [.inl (max (s 3041) (s 3042)), .inl (s 3043), .inr (.inl 30)], n, D, s, p, c) _
  have b6 : 0 ≤ (s 3043) ∧ (s 3043) ≤ 65535 := hS 3043
  have K8 : ∀ (j7 : Int) , (-2147483648 ≤ j7 ∧ j7 ≤ 2147483647) → (((s 3043) < (max (s 3041) (s 3042)) ∧ (min (s 3041) (s 3042)) < (s 3043) ∧ j7 = (((s 3041) + (s 3042)) - (s 3043))) ∨ ((s 3043) < (max (s 3041) (s 3042)) ∧ (s 3043) ≤ (min (s 3041) (s 3042)) ∧ j7 = (max (s 3041) (s 3042))) ∨ ((max (s 3041) (s 3042)) ≤ (s 3043) ∧ j7 = (min (s 3041) (s 3042)))) → tt Zi d 173 (79, [some (.inr (.inl 30)), some (.inl x), some (.inl y), some (.inl p_), none, none, none, none, none, none], [.inl j7, .inr (.inl 30)], n, D, s, p, c) (fun R H => ∃ (s' : Nat → Int) (c' : Nat → Nat → Int), R = .inl none ∧ H = (n, D, s', p, c') ∧ bS s' ∧ bC D c' ∧ fr s s' [3016, 3045, 3047, 3048] ∧ frc c c' [35, 36, 37, 38, 39, 44] ∧ (w_ok (s' 3047) (s' 3048)) ∧ (4096 * w_u (s' 3016) (s' 3047) (s' 3048) + pot s' c' ≤ Bd + cb s) ∧ (pl s' (t + 1) c') ∧ (tb (s' 3037) (s' 3039) (s' 3017) (c' 44) (x + 1) y) ∧ (s 3016 ≤ s' 3016)) := by
    intro j7 b10 hj9
    refine tt_k 7 (S' := (92, [some (.inr (.inl 30)), some (.inl x), some (.inl y), some (.inl p_), none, none, none, none, none, none], [.inl (s 3046), .inl (s 3017), .inl 0, .inr (.inl 30)], n, D, (us s 3045 j7), p, c)) rfl ?_
    have b11 : 0 ≤ (s 3046) ∧ (s 3046) ≤ 1 := hS 3046
    have K13 : ∀ (j12 : Int) , (-4294967296 ≤ j12 ∧ j12 ≤ 4294967295) → (((s 3046) = 0 ∧ j12 = (j7 + (c 38 (p_).toNat))) ∨ ((s 3046) ≠ 0 ∧ j12 = (j7 - (c 38 (p_).toNat)))) → tt Zi d 173 (120, [some (.inr (.inl 30)), some (.inl x), some (.inl y), some (.inl p_), none, none, none, none, none, none], [.inl j12, .inl (s 3017), .inl 0, .inr (.inl 30)], n, D, (us s 3045 j7), p, c) (fun R H => ∃ (s' : Nat → Int) (c' : Nat → Nat → Int), R = .inl none ∧ H = (n, D, s', p, c') ∧ bS s' ∧ bC D c' ∧ fr s s' [3016, 3045, 3047, 3048] ∧ frc c c' [35, 36, 37, 38, 39, 44] ∧ (w_ok (s' 3047) (s' 3048)) ∧ (4096 * w_u (s' 3016) (s' 3047) (s' 3048) + pot s' c' ≤ Bd + cb s) ∧ (pl s' (t + 1) c') ∧ (tb (s' 3037) (s' 3039) (s' 3017) (c' 44) (x + 1) y) ∧ (s 3016 ≤ s' 3016)) := by
      intro j12 b15 hj14
      have b16 : 0 ≤ (s 3017) ∧ (s 3017) ≤ 65535 := hS 3017
      refine tt_cl (by omega) rfl (k_less (Zi := Zi) (D := D) (s := (us s 3045 j7)) (p := p) (c := c) (by omega) (bS_us hS (show -65535 ≤ j7 ∧ j7 ≤ 131070 by omega)) hC (s 3017) j12 (by omega) (by omega)) ?_
      rintro _ _ ⟨r17, rfl, rfl, b18, k19⟩
      show tt Zi d 173 (123, [some (.inr (.inl 30)), some (.inl x), some (.inl y), some (.inl p_), none, none, none, none, none, none], [.inl r17, .inl 0, .inr (.inl 30)], n, D, (us s 3045 j7), p, c) _
      have k19 : r17 = min (s 3017) j12 := k19
      subst k19
      show tt Zi d 173 (123, [some (.inr (.inl 30)), some (.inl x), some (.inl y), some (.inl p_), none, none, none, none, none, none], [.inl (min (s 3017) j12), .inl 0, .inr (.inl 30)], n, D, (us s 3045 j7), p, c) _
      refine tt_cl (by omega) rfl (k_more (Zi := Zi) (D := D) (s := (us s 3045 j7)) (p := p) (c := c) (by omega) (bS_us hS (show -65535 ≤ j7 ∧ j7 ≤ 131070 by omega)) hC 0 (min (s 3017) j12) (by omega) (by omega)) ?_
      rintro _ _ ⟨r20, rfl, rfl, b21, k22⟩
      show tt Zi d 173 (126, [some (.inr (.inl 30)), some (.inl x), some (.inl y), some (.inl p_), none, none, none, none, none, none], [.inl r20, .inr (.inl 30)], n, D, (us s 3045 j7), p, c) _
      have k22 : r20 = max 0 (min (s 3017) j12) := k22
      subst k22
      show tt Zi d 173 (126, [some (.inr (.inl 30)), some (.inl x), some (.inl y), some (.inl p_), none, none, none, none, none, none], [.inl ((max 0 (min (s 3017) j12))), .inr (.inl 30)], n, D, (us s 3045 j7), p, c) _
      refine tt_k 5 (S' := (135, [some (.inr (.inl 30)), some (.inl x), some (.inl y), some (.inl p_), none, none, none, none, none, none], [.inl p_, .inr (.inl 36), .inr (.inl 30)], n, D, (us (us s 3045 j7) 3045 ((max 0 (min (s 3017) j12)))), p, c)) rfl ?_
      refine tt_ildv (i := p_) (v := (c 36 (p_).toNat)) rfl rfl (by omega) rfl ?_
      show tt Zi d 173 (136, [some (.inr (.inl 30)), some (.inl x), some (.inl y), some (.inl p_), none, none, none, none, none, none], [.inl (c 36 (p_).toNat), .inr (.inl 30)], n, D, (us (us s 3045 j7) 3045 ((max 0 (min (s 3017) j12)))), p, c) _
      have b23 : -2147483648 ≤ (c 36 (p_).toNat) ∧ (c 36 (p_).toNat) ≤ 2147483647 := hC 36 _
      refine tt_k 3 (S' := (141, [some (.inr (.inl 30)), some (.inl x), some (.inl y), some (.inl p_), none, none, none, none, none, none], [.inl p_, .inr (.inl 39), .inl (c 36 (p_).toNat), .inr (.inl 30)], n, D, (us (us s 3045 j7) 3045 ((max 0 (min (s 3017) j12)))), p, c)) rfl ?_
      refine tt_ildv (i := p_) (v := (c 39 (p_).toNat)) rfl rfl (by omega) rfl ?_
      show tt Zi d 173 (142, [some (.inr (.inl 30)), some (.inl x), some (.inl y), some (.inl p_), none, none, none, none, none, none], [.inl (c 39 (p_).toNat), .inl (c 36 (p_).toNat), .inr (.inl 30)], n, D, (us (us s 3045 j7) 3045 ((max 0 (min (s 3017) j12)))), p, c) _
      have b24 : -2147483648 ≤ (c 39 (p_).toNat) ∧ (c 39 (p_).toNat) ≤ 2147483647 := hC 39 _
      refine tt_cl (by omega) rfl (k_exponent (Zi := Zi) (D := D) (s := (us (us s 3045 j7) 3045 ((max 0 (min (s 3017) j12))))) (p := p) (c := c) (by omega) (bS_us (bS_us hS (show -65535 ≤ j7 ∧ j7 ≤ 131070 by omega)) (show -65535 ≤ (max 0 (min (s 3017) j12)) ∧ (max 0 (min (s 3017) j12)) ≤ 131070 by omega)) hC (c 36 (p_).toNat) (c 39 (p_).toNat) (by omega) (by omega)) ?_
      rintro _ _ ⟨r25, rfl, rfl, b26, k27, k28⟩
      show tt Zi d 173 (145, [some (.inr (.inl 30)), some (.inl x), some (.inl y), some (.inl p_), none, none, none, none, none, none], [.inl r25], n, D, (us (us s 3045 j7) 3045 ((max 0 (min (s 3017) j12)))), p, c) _
      have k27 : (c 36 (p_).toNat) ≤ (c 39 (p_).toNat) * 2 ^ r25.toNat := k27
      have k28 : r25 = 0 ∨ (c 39 (p_).toNat) * 2 ^ (r25 - 1).toNat < (c 36 (p_).toNat) := k28
      refine tt_k 3 (S' := (151, [some (.inr (.inl 30)), some (.inl x), some (.inl y), some (.inl p_), some (.inl r25), none, none, none, none, none], [.inl (s 3018)], n, D, (us (us s 3045 j7) 3045 ((max 0 (min (s 3017) j12)))), p, c)) rfl ?_
      have b29 : -2147483648 ≤ (s 3018) ∧ (s 3018) ≤ 2147483647 := hS 3018
      have K31 : ∀ (j30 : Int) , (0 ≤ j30 ∧ j30 ≤ 1) → (((s 3018) ≠ 0 ∧ j30 = 0) ∨ ((s 3018) = 0 ∧ r25 ≠ 0 ∧ j30 = 0) ∨ ((s 3018) = 0 ∧ r25 = 0 ∧ (-(c 39 (p_).toNat)) < (2 * (c 37 (p_).toNat)) ∧ j30 = 0) ∨ ((s 3018) = 0 ∧ r25 = 0 ∧ (2 * (c 37 (p_).toNat)) ≤ (-(c 39 (p_).toNat)) ∧ j30 = 1)) → tt Zi d 173 (182, [some (.inr (.inl 30)), some (.inl x), some (.inl y), some (.inl p_), some (.inl r25), none, none, none, none, none], [.inl j30], n, D, (us (us s 3045 j7) 3045 ((max 0 (min (s 3017) j12)))), p, c) (fun R H => ∃ (s' : Nat → Int) (c' : Nat → Nat → Int), R = .inl none ∧ H = (n, D, s', p, c') ∧ bS s' ∧ bC D c' ∧ fr s s' [3016, 3045, 3047, 3048] ∧ frc c c' [35, 36, 37, 38, 39, 44] ∧ (w_ok (s' 3047) (s' 3048)) ∧ (4096 * w_u (s' 3016) (s' 3047) (s' 3048) + pot s' c' ≤ Bd + cb s) ∧ (pl s' (t + 1) c') ∧ (tb (s' 3037) (s' 3039) (s' 3017) (c' 44) (x + 1) y) ∧ (s 3016 ≤ s' 3016)) := by
        intro j30 b33 hj32
        refine tt_k 5 (S' := (191, [some (.inr (.inl 30)), some (.inl x), some (.inl y), some (.inl p_), some (.inl r25), some (.inl j30), some (.inl 0), none, none, none], [.inl (s 3036)], n, D, (us (us s 3045 j7) 3045 ((max 0 (min (s 3017) j12)))), p, c)) rfl ?_
        have b34 : 0 ≤ (s 3036) ∧ (s 3036) ≤ 1 := hS 3036
        refine tz_eq (x := (s 3036)) rfl rfl (by omega) (fun h35 => ?_) (fun h35 => ?_)
        · exfalso; omega
        · show tt Zi d 173 (194, [some (.inr (.inl 30)), some (.inl x), some (.inl y), some (.inl p_), some (.inl r25), some (.inl j30), some (.inl 0), none, none, none], [], n, D, (us (us s 3045 j7) 3045 ((max 0 (min (s 3017) j12)))), p, c) _
          refine tt_k 11 (S' := (210, [some (.inr (.inl 30)), some (.inl x), some (.inl y), some (.inl p_), some (.inl r25), some (.inl j30), some (.inl 0), none, none, none], [.inl ((((s 3039) + (64 * y)) + x)), .inr (.inl 31), .inr (.inl 30)], n, D, (us (us s 3045 j7) 3045 ((max 0 (min (s 3017) j12)))), p, c)) rfl ?_
          have b36 : 0 ≤ (s 3039) ∧ (s 3039) ≤ 8192 := hS 3039
          refine tt_ildv (i := (((s 3039) + (64 * y)) + x)) (v := (c 31 ((((s 3039) + (64 * y)) + x)).toNat)) rfl rfl (by omega) rfl ?_
          show tt Zi d 173 (211, [some (.inr (.inl 30)), some (.inl x), some (.inl y), some (.inl p_), some (.inl r25), some (.inl j30), some (.inl 0), none, none, none], [.inl ((c 31 ((((s 3039) + (64 * y)) + x)).toNat)), .inr (.inl 30)], n, D, (us (us s 3045 j7) 3045 ((max 0 (min (s 3017) j12)))), p, c) _
          have b37 : 0 ≤ (c 31 ((((s 3039) + (64 * y)) + x)).toNat) ∧ (c 31 ((((s 3039) + (64 * y)) + x)).toNat) ≤ 65535 := hC 31 _
          refine tt_cl (by omega) rfl (k_errorOf (Zi := Zi) (D := D) (s := (us (us s 3045 j7) 3045 ((max 0 (min (s 3017) j12))))) (p := p) (c := c) (by omega) (bS_us (bS_us hS (show -65535 ≤ j7 ∧ j7 ≤ 131070 by omega)) (show -65535 ≤ (max 0 (min (s 3017) j12)) ∧ (max 0 (min (s 3017) j12)) ≤ 131070 by omega)) hC ((c 31 ((((s 3039) + (64 * y)) + x)).toNat)) (by omega) (mv_us (by decide) (mv_us (by decide) hp0)) (show ((c 31 ((((s 3039) + (64 * y)) + x)).toNat)) ≤ (s 3017) ∧ 0 ≤ ((max 0 (min (s 3017) j12))) ∧ ((max 0 (min (s 3017) j12))) ≤ (s 3017) by omega)) ?_
          rintro _ _ ⟨r38, rfl, rfl, b39, k40, k41⟩
          show tt Zi d 173 (214, [some (.inr (.inl 30)), some (.inl x), some (.inl y), some (.inl p_), some (.inl r25), some (.inl j30), some (.inl 0), none, none, none], [.inl r38], n, D, (us (us s 3045 j7) 3045 ((max 0 (min (s 3017) j12)))), p, c) _
          have k40 : -((s 3024) / 2) ≤ r38 ∧ r38 ≤ ((s 3024) - 1) / 2 := k40
          have k41 : ((s 3018) < ((c 31 ((((s 3039) + (64 * y)) + x)).toNat)) - ((max 0 (min (s 3017) j12))) ∨ (s 3018) < ((max 0 (min (s 3017) j12))) - ((c 31 ((((s 3039) + (64 * y)) + x)).toNat))) → r38 ≠ 0 := k41
          have b42 : -2147483648 ≤ (s 3024) ∧ (s 3024) ≤ 2147483647 := hS 3024
          clear k41
          refine tt_k 2 (S' := (218, [some (.inr (.inl 30)), some (.inl x), some (.inl y), some (.inl p_), some (.inl r25), some (.inl j30), some (.inl r38), none, none, none], [.inl r38], n, D, (us (us s 3045 j7) 3045 ((max 0 (min (s 3017) j12)))), p, c)) rfl ?_
          have K44 : ∀ (j43 : Int) , (0 ≤ j43 ∧ j43 ≤ 131073) → ((0 ≤ r38 ∧ j30 = 0 ∧ j43 = (2 * r38)) ∨ (0 ≤ r38 ∧ j30 ≠ 0 ∧ j43 = ((2 * r38) + 1)) ∨ (r38 < 0 ∧ j30 = 0 ∧ j43 = (((-2) * r38) - 1)) ∨ (r38 < 0 ∧ j30 ≠ 0 ∧ j43 = ((-2) * (r38 + 1)))) → tt Zi d 173 (264, [some (.inr (.inl 30)), some (.inl x), some (.inl y), some (.inl p_), some (.inl r25), some (.inl j30), some (.inl r38), none, none, none], [.inl j43], n, D, (us (us s 3045 j7) 3045 ((max 0 (min (s 3017) j12)))), p, c) (fun R H => ∃ (s' : Nat → Int) (c' : Nat → Nat → Int), R = .inl none ∧ H = (n, D, s', p, c') ∧ bS s' ∧ bC D c' ∧ fr s s' [3016, 3045, 3047, 3048] ∧ frc c c' [35, 36, 37, 38, 39, 44] ∧ (w_ok (s' 3047) (s' 3048)) ∧ (4096 * w_u (s' 3016) (s' 3047) (s' 3048) + pot s' c' ≤ Bd + cb s) ∧ (pl s' (t + 1) c') ∧ (tb (s' 3037) (s' 3039) (s' 3017) (c' 44) (x + 1) y) ∧ (s 3016 ≤ s' 3016)) := by
            intro j43 b46 hj45
            refine tt_k 6 (S' := (275, [some (.inr (.inl 30)), some (.inl x), some (.inl y), some (.inl p_), some (.inl r25), some (.inl j30), some (.inl r38), some (.inl j43), none, none], [.inl (s 3026), .inl r25, .inl j43, .inr (.inl 30)], n, D, (us (us s 3045 j7) 3045 ((max 0 (min (s 3017) j12)))), p, c)) rfl ?_
            have hall := reg_all (s := s) (t := t) (c := c) (i := (p_).toNat) (m := j43) (k := r25) (E := (if 0 ≤ r38 then r38 else -r38)) hp0 (by omega) hi (by omega) k27 k28 (by omega) (by omega) (by omega) (by omega) (by omega) rfl
            have hall1 := hall.1
            have b47 : 0 ≤ (s 3026) ∧ (s 3026) ≤ 96 := hS 3026
            have b48 : 0 ≤ (s 3047) ∧ (s 3047) ≤ 255 := hS 3047
            have b49 : 0 ≤ (s 3048) ∧ (s 3048) ≤ 8 := hS 3048
            have b50 : 0 ≤ (s 3016) ∧ (s 3016) ≤ 65536 := hS 3016
            have b51 : 0 ≤ (s 3025) ∧ (s 3025) ≤ 31 := hS 3025
            refine tt_cl (by omega) rfl (k_putNumber (Zi := Zi) (D := D) (s := (us (us s 3045 j7) 3045 ((max 0 (min (s 3017) j12))))) (p := p) (c := c) (by omega) (bS_us (bS_us hS (show -65535 ≤ j7 ∧ j7 ≤ 131070 by omega)) (show -65535 ≤ (max 0 (min (s 3017) j12)) ∧ (max 0 (min (s 3017) j12)) ≤ 131070 by omega)) hC j43 r25 (s 3026) (by omega) (by omega) (by omega) hp5 (show w_u ((s 3016)) ((s 3047)) ((s 3048)) + (if mi_shr j43 r25 < (s 3026) - (s 3025) - 1 then 8 * mi_shr j43 r25 + 9 + 9 * r25 else 8 * ((s 3026) - (s 3025) - 1) + 9 + 9 * (s 3025)) ≤ 4194304 by omega) (show 0 ≤ (s 3026) - (s 3025) - 1 ∧ (s 3026) - (s 3025) - 1 ≤ 64 ∧ (s 3025) ≤ 30 by omega)) ?_
            rintro _ _ ⟨s52, c53, rfl, rfl, hS52, hC53, f54, g55, k56, k57, k58⟩
            have hc59 : mv s52 := mv_fr f54 (by decide) (mv_us (by decide) (mv_us (by decide) hp0))
            show tt Zi d 173 (278, [some (.inr (.inl 30)), some (.inl x), some (.inl y), some (.inl p_), some (.inl r25), some (.inl j30), some (.inl r38), some (.inl j43), none, none], [], n, D, s52, p, c53) _
            have k56 : w_ok ((s52 3047)) ((s52 3048)) := k56
            have k57 : w_u ((s52 3016)) ((s52 3047)) ((s52 3048)) ≤ w_u ((s 3016)) ((s 3047)) ((s 3048)) + (if mi_shr j43 r25 < (s 3026) - (s 3025) - 1 then 8 * mi_shr j43 r25 + 9 + 9 * r25 else 8 * ((s 3026) - (s 3025) - 1) + 9 + 9 * (s 3025)) := k57
            have k58 : (s 3016) ≤ (s52 3016) := k58
            have b60 : 0 ≤ (s52 3047) ∧ (s52 3047) ≤ 255 := hS52 3047
            have b61 : 0 ≤ (s52 3048) ∧ (s52 3048) ≤ 8 := hS52 3048
            have b62 : 0 ≤ (s52 3016) ∧ (s52 3016) ≤ 65536 := hS52 3016
            have e63 : s52 3050 = (s 3050) := (f54 3050 (by decide))
            have b64 : 0 ≤ (s52 3050) ∧ (s52 3050) ≤ 8 := hS52 3050
            have b65 : 0 ≤ (s 3050) ∧ (s 3050) ≤ 8 := hS 3050
            have e66 : s52 3039 = (s 3039) := (f54 3039 (by decide))
            have b67 : 0 ≤ (s52 3039) ∧ (s52 3039) ≤ 8192 := hS52 3039
            have e68 : s52 3017 = (s 3017) := (f54 3017 (by decide))
            have b69 : 0 ≤ (s52 3017) ∧ (s52 3017) ≤ 65535 := hS52 3017
            have e70 : s52 3022 = (s 3022) := (f54 3022 (by decide))
            have b71 : 0 ≤ (s52 3022) ∧ (s52 3022) ≤ 65535 := hS52 3022
            have b72 : 0 ≤ (s 3022) ∧ (s 3022) ≤ 65535 := hS 3022
            have e73 : s52 3023 = (s 3023) := (f54 3023 (by decide))
            have b74 : -2147483648 ≤ (s52 3023) ∧ (s52 3023) ≤ 2147483647 := hS52 3023
            have b75 : -2147483648 ≤ (s 3023) ∧ (s 3023) ≤ 2147483647 := hS 3023
            have e76 : s52 3024 = (s 3024) := (f54 3024 (by decide))
            have b77 : -2147483648 ≤ (s52 3024) ∧ (s52 3024) ≤ 2147483647 := hS52 3024
            have e78 : s52 3025 = (s 3025) := (f54 3025 (by decide))
            have b79 : 0 ≤ (s52 3025) ∧ (s52 3025) ≤ 31 := hS52 3025
            have e80 : s52 3026 = (s 3026) := (f54 3026 (by decide))
            have b81 : 0 ≤ (s52 3026) ∧ (s52 3026) ≤ 96 := hS52 3026
            have e82 : s52 3037 = (s 3037) := (f54 3037 (by decide))
            have b83 : 0 ≤ (s52 3037) ∧ (s52 3037) ≤ 64 := hS52 3037
            have b84 : 0 ≤ (s 3037) ∧ (s 3037) ≤ 64 := hS 3037
            have e85 : s52 3045 = (max 0 (min (s 3017) j12)) := (f54 3045 (by decide))
            have b86 : -65535 ≤ (s52 3045) ∧ (s52 3045) ≤ 131070 := hS52 3045
            refine tt_k 3 (S' := (394, [some (.inr (.inl 30)), some (.inl x), some (.inl y), some (.inl p_), some (.inl r25), some (.inl j30), some (.inl r38), some (.inl j43), none, none], [.inl (s52 3050)], n, D, s52, p, c53)) rfl ?_
            refine tz_le (x := (s52 3050)) rfl rfl (by omega) (fun h87 => ?_) (fun h87 => ?_)
            · show tt Zi d 173 (398, [some (.inr (.inl 30)), some (.inl x), some (.inl y), some (.inl p_), some (.inl r25), some (.inl j30), some (.inl r38), some (.inl j43), none, none], [], n, D, s52, p, c53) _
              refine tt_k 12 (S' := (416, [some (.inr (.inl 30)), some (.inl x), some (.inl y), some (.inl p_), some (.inl r25), some (.inl j30), some (.inl r38), some (.inl j43), none, none], [.inl r38, .inr (.inl 30), .inl ((((s52 3039) + (64 * y)) + x)), .inr (.inl 44)], n, D, s52, p, c53)) rfl ?_
              refine tt_cl (by omega) rfl (k_sampleOf (Zi := Zi) (D := D) (s := s52) (p := p) (c := c53) (by omega) hS52 hC53 r38 (by omega) hc59 (show -65535 ≤ (s52 3045) ∧ (s52 3045) ≤ 131070 by omega)) ?_
              rintro _ _ ⟨r88, rfl, rfl, b89, k90⟩
              show tt Zi d 173 (419, [some (.inr (.inl 30)), some (.inl x), some (.inl y), some (.inl p_), some (.inl r25), some (.inl j30), some (.inl r38), some (.inl j43), none, none], [.inl r88, .inl ((((s52 3039) + (64 * y)) + x)), .inr (.inl 44)], n, D, s52, p, c53) _
              have k90 : 0 ≤ r88 ∧ r88 ≤ (s52 3017) := k90
              refine tt_ist (i := (((s52 3039) + (64 * y)) + x)) (x := r88) rfl rfl (by omega) ?_
              show tt Zi d 173 (420, [some (.inr (.inl 30)), some (.inl x), some (.inl y), some (.inl p_), some (.inl r25), some (.inl j30), some (.inl r38), some (.inl j43), none, none], [], n, D, s52, p, (uc c53 44 (ua (c53 44) ((((s52 3039) + (64 * y)) + x)).toNat r88))) _
              refine tt_k 3 (S' := (424, [some (.inr (.inl 30)), some (.inl x), some (.inl y), some (.inl p_), some (.inl r25), some (.inl j30), some (.inl r38), some (.inl j43), none, none], [.inl r38, .inl p_, .inr (.inl 30)], n, D, s52, p, (uc c53 44 (ua (c53 44) ((((s52 3039) + (64 * y)) + x)).toNat r88)))) rfl ?_
              have z36 : c53 36 = c 36 := g55 36 (by decide)
              have zz36 := congrFun z36 (p_).toNat
              have z37 : c53 37 = c 37 := g55 37 (by decide)
              have zz37 := congrFun z37 (p_).toNat
              have z38 : c53 38 = c 38 := g55 38 (by decide)
              have zz38 := congrFun z38 (p_).toNat
              have z39 : c53 39 = c 39 := g55 39 (by decide)
              have zz39 := congrFun z39 (p_).toNat
              refine tt_cl (by omega) rfl (k_learn (Zi := Zi) (D := D) (s := s52) (p := p) (c := (uc c53 44 (ua (c53 44) ((((s52 3039) + (64 * y)) + x)).toNat r88))) (by omega) hS52 (bC_st hC53 (show 0 ≤ r88 ∧ r88 ≤ 65535 by omega)) p_ r38 (by omega) (by omega) (show 1 ≤ (s52 3023) ∧ (s52 3023) ≤ 511 ∧ 3 ≤ (s52 3022) by omega) (show 0 ≤ (c53 36) p_.toNat ∧ (c53 36) p_.toNat ≤ 300000000 by omega) (show -65536 ≤ (c53 37) p_.toNat ∧ (c53 37) p_.toNat ≤ 65536 by omega) (show -128 ≤ (c53 38) p_.toNat ∧ (c53 38) p_.toNat ≤ 127 by omega) (show 1 ≤ (c53 39) p_.toNat ∧ (c53 39) p_.toNat ≤ 70000 by omega)) ?_
              rintro _ _ ⟨c91, rfl, rfl, hC91, g92, k93, k94, k95, k96, k97, k98, k99, k100⟩
              show tt Zi d 173 (427, [some (.inr (.inl 30)), some (.inl x), some (.inl y), some (.inl p_), some (.inl r25), some (.inl j30), some (.inl r38), some (.inl j43), none, none], [], n, D, s52, p, c91) _
              have k93 : (c91 36) p_.toNat = if (c53 39) p_.toNat = (s52 3022) then ((c53 36) p_.toNat + (if 0 ≤ r38 then r38 else -r38)) / 2 else (c53 36) p_.toNat + (if 0 ≤ r38 then r38 else -r38) := k93
              have k94 : (c91 39) p_.toNat = (if (c53 39) p_.toNat = (s52 3022) then (c53 39) p_.toNat / 2 else (c53 39) p_.toNat) + 1 := k94
              have k95 : 1 - (c91 39) p_.toNat ≤ (c91 37) p_.toNat ∧ (c91 37) p_.toNat ≤ 0 := k95
              have k96 : -128 ≤ (c91 38) p_.toNat ∧ (c91 38) p_.toNat ≤ 127 := k96
              have k97 : ∀ j, j ≠ p_.toNat → (c91 36) j = (c53 36) j := k97
              have k98 : ∀ j, j ≠ p_.toNat → (c91 37) j = (c53 37) j := k98
              have k99 : ∀ j, j ≠ p_.toNat → (c91 38) j = (c53 38) j := k99
              have k100 : ∀ j, j ≠ p_.toNat → (c91 39) j = (c53 39) j := k100
              have xHA : s52 3022 = s 3022 := by omega
              have xQ : s52 3025 = s 3025 := by omega
              have xL : s52 3026 = s 3026 := by omega
              have q36 : c91 36 (p_).toNat = if c 39 (p_).toNat = s 3022 then (c 36 (p_).toNat + (if 0 ≤ r38 then r38 else -r38)) / 2 else c 36 (p_).toNat + (if 0 ≤ r38 then r38 else -r38) := by have hx := k93; simp only [z36, z39, xHA] at hx; exact hx
              have q39 : c91 39 (p_).toNat = (if c 39 (p_).toNat = s 3022 then c 39 (p_).toNat / 2 else c 39 (p_).toNat) + 1 := by have hx := k94; simp only [z39, xHA] at hx; exact hx
              have u36 : ∀ j, j ≠ (p_).toNat → c91 36 j = c 36 j := fun j hj => (k97 j hj).trans (congrFun z36 j)
              have u37 : ∀ j, j ≠ (p_).toNat → c91 37 j = c 37 j := fun j hj => (k98 j hj).trans (congrFun z37 j)
              have u38 : ∀ j, j ≠ (p_).toNat → c91 38 j = c 38 j := fun j hj => (k99 j hj).trans (congrFun z38 j)
              have u39 : ∀ j, j ≠ (p_).toNat → c91 39 j = c 39 j := fun j hj => (k100 j hj).trans (congrFun z39 j)
              have hN4 : c91 39 (p_).toNat ≤ 70000 := by rw [q39]; (try split) <;> omega
              have w44 : c91 44 = (ua (c53 44) ((((s52 3039) + (64 * y)) + x)).toNat r88) := g92 44 (by decide)
              have xW : s52 3037 = s 3037 := by omega
              have xB : s52 3039 = s 3039 := by omega
              have xM : s52 3017 = s 3017 := by omega
              have z44 : c53 44 = c 44 := g55 44 (by decide)
              have hTB : tb (s52 3037) (s52 3039) (s52 3017) (c91 44) (x + 1) y := by rw [w44, z44, xW, xB, xM]; exact tb_next hp8 (by omega) (by omega) (by omega) (by omega) (by omega)
              exact tt_rtv rfl rfl ⟨s52, c91, rfl, rfl, hS52, hC91, (fr_tr (fr_us (by decide) (fr_us (by decide) fr_rf)) f54 (by decide)), (frc_tr (frc_uc (by decide) (frc_tr frc_rf g55 (by decide))) g92 (by decide)), k56, by show 4096 * w_u ((s52 3016)) ((s52 3047)) ((s52 3048)) + pot s52 c91 ≤ Bd + cb s; have ha := hall.2 c91 q36 q39 u36 u39; have hb2 : pot s52 c91 = pot s c91 := pot_eq xQ xL rfl rfl; rw [hb2]; omega, pl_next (s := s) hp0 (by omega) hp3 (by omega) xQ (E := (if 0 ≤ r38 then r38 else -r38)) (by omega) (by omega) q36 q39 (by omega) (by omega) u36 u37 u38 u39, hTB, by show s 3016 ≤ (s52 3016); omega⟩
            · exfalso; omega
          refine tz_ge (x := r38) rfl rfl (by omega) (fun h101 => ?_) (fun h101 => ?_)
          · show tt Zi d 173 (246, [some (.inr (.inl 30)), some (.inl x), some (.inl y), some (.inl p_), some (.inl r25), some (.inl j30), some (.inl r38), none, none, none], [], n, D, (us (us s 3045 j7) 3045 ((max 0 (min (s 3017) j12)))), p, c) _
            refine tt_k 1 (S' := (248, [some (.inr (.inl 30)), some (.inl x), some (.inl y), some (.inl p_), some (.inl r25), some (.inl j30), some (.inl r38), none, none, none], [.inl j30], n, D, (us (us s 3045 j7) 3045 ((max 0 (min (s 3017) j12)))), p, c)) rfl ?_
            refine tz_eq (x := j30) rfl rfl (by omega) (fun h102 => ?_) (fun h102 => ?_)
            · show tt Zi d 173 (260, [some (.inr (.inl 30)), some (.inl x), some (.inl y), some (.inl p_), some (.inl r25), some (.inl j30), some (.inl r38), none, none, none], [], n, D, (us (us s 3045 j7) 3045 ((max 0 (min (s 3017) j12)))), p, c) _
              refine tt_k 3 (S' := (264, [some (.inr (.inl 30)), some (.inl x), some (.inl y), some (.inl p_), some (.inl r25), some (.inl j30), some (.inl r38), none, none, none], [.inl (2 * r38)], n, D, (us (us s 3045 j7) 3045 ((max 0 (min (s 3017) j12)))), p, c)) rfl ?_
              exact K44 (2 * r38)  (by omega) (Or.inl ⟨h101, h102, rfl⟩)
            · show tt Zi d 173 (251, [some (.inr (.inl 30)), some (.inl x), some (.inl y), some (.inl p_), some (.inl r25), some (.inl j30), some (.inl r38), none, none, none], [], n, D, (us (us s 3045 j7) 3045 ((max 0 (min (s 3017) j12)))), p, c) _
              refine tt_k 6 (S' := (264, [some (.inr (.inl 30)), some (.inl x), some (.inl y), some (.inl p_), some (.inl r25), some (.inl j30), some (.inl r38), none, none, none], [.inl ((2 * r38) + 1)], n, D, (us (us s 3045 j7) 3045 ((max 0 (min (s 3017) j12)))), p, c)) rfl ?_
              exact K44 ((2 * r38) + 1)  (by omega) (Or.inr (Or.inl ⟨h101, h102, rfl⟩))
          · show tt Zi d 173 (221, [some (.inr (.inl 30)), some (.inl x), some (.inl y), some (.inl p_), some (.inl r25), some (.inl j30), some (.inl r38), none, none, none], [], n, D, (us (us s 3045 j7) 3045 ((max 0 (min (s 3017) j12)))), p, c) _
            refine tt_k 1 (S' := (223, [some (.inr (.inl 30)), some (.inl x), some (.inl y), some (.inl p_), some (.inl r25), some (.inl j30), some (.inl r38), none, none, none], [.inl j30], n, D, (us (us s 3045 j7) 3045 ((max 0 (min (s 3017) j12)))), p, c)) rfl ?_
            refine tz_eq (x := j30) rfl rfl (by omega) (fun h103 => ?_) (fun h103 => ?_)
            · show tt Zi d 173 (236, [some (.inr (.inl 30)), some (.inl x), some (.inl y), some (.inl p_), some (.inl r25), some (.inl j30), some (.inl r38), none, none, none], [], n, D, (us (us s 3045 j7) 3045 ((max 0 (min (s 3017) j12)))), p, c) _
              refine tt_k 6 (S' := (264, [some (.inr (.inl 30)), some (.inl x), some (.inl y), some (.inl p_), some (.inl r25), some (.inl j30), some (.inl r38), none, none, none], [.inl ((((-2) * r38) - 1))], n, D, (us (us s 3045 j7) 3045 ((max 0 (min (s 3017) j12)))), p, c)) rfl ?_
              exact K44 ((((-2) * r38) - 1))  (by omega) (Or.inr (Or.inr (Or.inl ⟨h101, h103, rfl⟩)))
            · show tt Zi d 173 (226, [some (.inr (.inl 30)), some (.inl x), some (.inl y), some (.inl p_), some (.inl r25), some (.inl j30), some (.inl r38), none, none, none], [], n, D, (us (us s 3045 j7) 3045 ((max 0 (min (s 3017) j12)))), p, c) _
              refine tt_k 6 (S' := (264, [some (.inr (.inl 30)), some (.inl x), some (.inl y), some (.inl p_), some (.inl r25), some (.inl j30), some (.inl r38), none, none, none], [.inl ((-2) * (r38 + 1))], n, D, (us (us s 3045 j7) 3045 ((max 0 (min (s 3017) j12)))), p, c)) rfl ?_
              exact K44 ((-2) * (r38 + 1))  (by omega) (Or.inr (Or.inr (Or.inr (⟨h101, h103, rfl⟩))))
      refine tz_ne (x := (s 3018)) rfl rfl (by omega) (fun h104 => ?_) (fun h104 => ?_)
      · show tt Zi d 173 (181, [some (.inr (.inl 30)), some (.inl x), some (.inl y), some (.inl p_), some (.inl r25), none, none, none, none, none], [], n, D, (us (us s 3045 j7) 3045 ((max 0 (min (s 3017) j12)))), p, c) _
        refine tt_k 1 (S' := (182, [some (.inr (.inl 30)), some (.inl x), some (.inl y), some (.inl p_), some (.inl r25), none, none, none, none, none], [.inl 0], n, D, (us (us s 3045 j7) 3045 ((max 0 (min (s 3017) j12)))), p, c)) rfl ?_
        exact K31 0  (by omega) (Or.inl ⟨h104, rfl⟩)
      · show tt Zi d 173 (154, [some (.inr (.inl 30)), some (.inl x), some (.inl y), some (.inl p_), some (.inl r25), none, none, none, none, none], [], n, D, (us (us s 3045 j7) 3045 ((max 0 (min (s 3017) j12)))), p, c) _
        refine tt_k 1 (S' := (156, [some (.inr (.inl 30)), some (.inl x), some (.inl y), some (.inl p_), some (.inl r25), none, none, none, none, none], [.inl r25], n, D, (us (us s 3045 j7) 3045 ((max 0 (min (s 3017) j12)))), p, c)) rfl ?_
        refine tz_ne (x := r25) rfl rfl (by omega) (fun h105 => ?_) (fun h105 => ?_)
        · show tt Zi d 173 (181, [some (.inr (.inl 30)), some (.inl x), some (.inl y), some (.inl p_), some (.inl r25), none, none, none, none, none], [], n, D, (us (us s 3045 j7) 3045 ((max 0 (min (s 3017) j12)))), p, c) _
          refine tt_k 1 (S' := (182, [some (.inr (.inl 30)), some (.inl x), some (.inl y), some (.inl p_), some (.inl r25), none, none, none, none, none], [.inl 0], n, D, (us (us s 3045 j7) 3045 ((max 0 (min (s 3017) j12)))), p, c)) rfl ?_
          exact K31 0  (by omega) (Or.inr (Or.inl ⟨h104, h105, rfl⟩))
        · show tt Zi d 173 (159, [some (.inr (.inl 30)), some (.inl x), some (.inl y), some (.inl p_), some (.inl r25), none, none, none, none, none], [], n, D, (us (us s 3045 j7) 3045 ((max 0 (min (s 3017) j12)))), p, c) _
          refine tt_k 4 (S' := (165, [some (.inr (.inl 30)), some (.inl x), some (.inl y), some (.inl p_), some (.inl r25), none, none, none, none, none], [.inl p_, .inr (.inl 37), .inl 2], n, D, (us (us s 3045 j7) 3045 ((max 0 (min (s 3017) j12)))), p, c)) rfl ?_
          refine tt_ildv (i := p_) (v := (c 37 (p_).toNat)) rfl rfl (by omega) rfl ?_
          show tt Zi d 173 (166, [some (.inr (.inl 30)), some (.inl x), some (.inl y), some (.inl p_), some (.inl r25), none, none, none, none, none], [.inl (c 37 (p_).toNat), .inl 2], n, D, (us (us s 3045 j7) 3045 ((max 0 (min (s 3017) j12)))), p, c) _
          have b106 : -2147483648 ≤ (c 37 (p_).toNat) ∧ (c 37 (p_).toNat) ≤ 2147483647 := hC 37 _
          refine tt_k 4 (S' := (172, [some (.inr (.inl 30)), some (.inl x), some (.inl y), some (.inl p_), some (.inl r25), none, none, none, none, none], [.inl p_, .inr (.inl 39), .inl ((2 * (c 37 (p_).toNat)))], n, D, (us (us s 3045 j7) 3045 ((max 0 (min (s 3017) j12)))), p, c)) rfl ?_
          refine tt_ildv (i := p_) (v := (c 39 (p_).toNat)) rfl rfl (by omega) rfl ?_
          show tt Zi d 173 (173, [some (.inr (.inl 30)), some (.inl x), some (.inl y), some (.inl p_), some (.inl r25), none, none, none, none, none], [.inl (c 39 (p_).toNat), .inl ((2 * (c 37 (p_).toNat)))], n, D, (us (us s 3045 j7) 3045 ((max 0 (min (s 3017) j12)))), p, c) _
          refine tt_k 1 (S' := (174, [some (.inr (.inl 30)), some (.inl x), some (.inl y), some (.inl p_), some (.inl r25), none, none, none, none, none], [.inl ((-(c 39 (p_).toNat))), .inl ((2 * (c 37 (p_).toNat)))], n, D, (us (us s 3045 j7) 3045 ((max 0 (min (s 3017) j12)))), p, c)) rfl ?_
          refine tb_gt (x := (2 * (c 37 (p_).toNat))) (y := (-(c 39 (p_).toNat))) rfl rfl (by omega) (fun h107 => ?_) (fun h107 => ?_)
          · show tt Zi d 173 (181, [some (.inr (.inl 30)), some (.inl x), some (.inl y), some (.inl p_), some (.inl r25), none, none, none, none, none], [], n, D, (us (us s 3045 j7) 3045 ((max 0 (min (s 3017) j12)))), p, c) _
            refine tt_k 1 (S' := (182, [some (.inr (.inl 30)), some (.inl x), some (.inl y), some (.inl p_), some (.inl r25), none, none, none, none, none], [.inl 0], n, D, (us (us s 3045 j7) 3045 ((max 0 (min (s 3017) j12)))), p, c)) rfl ?_
            exact K31 0  (by omega) (Or.inr (Or.inr (Or.inl ⟨h104, h105, h107, rfl⟩)))
          · show tt Zi d 173 (177, [some (.inr (.inl 30)), some (.inl x), some (.inl y), some (.inl p_), some (.inl r25), none, none, none, none, none], [], n, D, (us (us s 3045 j7) 3045 ((max 0 (min (s 3017) j12)))), p, c) _
            refine tt_k 2 (S' := (182, [some (.inr (.inl 30)), some (.inl x), some (.inl y), some (.inl p_), some (.inl r25), none, none, none, none, none], [.inl 1], n, D, (us (us s 3045 j7) 3045 ((max 0 (min (s 3017) j12)))), p, c)) rfl ?_
            exact K31 1  (by omega) (Or.inr (Or.inr (Or.inr (⟨h104, h105, h107, rfl⟩))))
    refine tz_eq (x := (s 3046)) rfl rfl (by omega) (fun h108 => ?_) (fun h108 => ?_)
    · show tt Zi d 173 (109, [some (.inr (.inl 30)), some (.inl x), some (.inl y), some (.inl p_), none, none, none, none, none, none], [.inl (s 3017), .inl 0, .inr (.inl 30)], n, D, (us s 3045 j7), p, c) _
      refine tt_k 5 (S' := (118, [some (.inr (.inl 30)), some (.inl x), some (.inl y), some (.inl p_), none, none, none, none, none, none], [.inl p_, .inr (.inl 38), .inl j7, .inl (s 3017), .inl 0, .inr (.inl 30)], n, D, (us s 3045 j7), p, c)) rfl ?_
      refine tt_ildv (i := p_) (v := (c 38 (p_).toNat)) rfl rfl (by omega) rfl ?_
      show tt Zi d 173 (119, [some (.inr (.inl 30)), some (.inl x), some (.inl y), some (.inl p_), none, none, none, none, none, none], [.inl (c 38 (p_).toNat), .inl j7, .inl (s 3017), .inl 0, .inr (.inl 30)], n, D, (us s 3045 j7), p, c) _
      have b109 : -2147483648 ≤ (c 38 (p_).toNat) ∧ (c 38 (p_).toNat) ≤ 2147483647 := hC 38 _
      refine tt_k 1 (S' := (120, [some (.inr (.inl 30)), some (.inl x), some (.inl y), some (.inl p_), none, none, none, none, none, none], [.inl ((j7 + (c 38 (p_).toNat))), .inl (s 3017), .inl 0, .inr (.inl 30)], n, D, (us s 3045 j7), p, c)) rfl ?_
      exact K13 ((j7 + (c 38 (p_).toNat)))  (by omega) (Or.inl ⟨h108, rfl⟩)
    · show tt Zi d 173 (95, [some (.inr (.inl 30)), some (.inl x), some (.inl y), some (.inl p_), none, none, none, none, none, none], [.inl (s 3017), .inl 0, .inr (.inl 30)], n, D, (us s 3045 j7), p, c) _
      refine tt_k 5 (S' := (104, [some (.inr (.inl 30)), some (.inl x), some (.inl y), some (.inl p_), none, none, none, none, none, none], [.inl p_, .inr (.inl 38), .inl j7, .inl (s 3017), .inl 0, .inr (.inl 30)], n, D, (us s 3045 j7), p, c)) rfl ?_
      refine tt_ildv (i := p_) (v := (c 38 (p_).toNat)) rfl rfl (by omega) rfl ?_
      show tt Zi d 173 (105, [some (.inr (.inl 30)), some (.inl x), some (.inl y), some (.inl p_), none, none, none, none, none, none], [.inl (c 38 (p_).toNat), .inl j7, .inl (s 3017), .inl 0, .inr (.inl 30)], n, D, (us s 3045 j7), p, c) _
      have b110 : -2147483648 ≤ (c 38 (p_).toNat) ∧ (c 38 (p_).toNat) ≤ 2147483647 := hC 38 _
      refine tt_k 2 (S' := (120, [some (.inr (.inl 30)), some (.inl x), some (.inl y), some (.inl p_), none, none, none, none, none, none], [.inl ((j7 - (c 38 (p_).toNat))), .inl (s 3017), .inl 0, .inr (.inl 30)], n, D, (us s 3045 j7), p, c)) rfl ?_
      exact K13 ((j7 - (c 38 (p_).toNat)))  (by omega) (Or.inr (⟨h108, rfl⟩))
  refine tb_lt (x := (s 3043)) (y := (max (s 3041) (s 3042))) rfl rfl (by omega) (fun h111 => ?_) (fun h111 => ?_)
  · show tt Zi d 173 (33, [some (.inr (.inl 30)), some (.inl x), some (.inl y), some (.inl p_), none, none, none, none, none, none], [.inr (.inl 30)], n, D, s, p, c) _
    refine tt_k 6 (S' := (45, [some (.inr (.inl 30)), some (.inl x), some (.inl y), some (.inl p_), none, none, none, none, none, none], [.inl (s 3042), .inl (s 3041), .inl (s 3043), .inr (.inl 30)], n, D, s, p, c)) rfl ?_
    refine tt_cl (by omega) rfl (k_less (Zi := Zi) (D := D) (s := s) (p := p) (c := c) (by omega) hS hC (s 3041) (s 3042) (by omega) (by omega)) ?_
    rintro _ _ ⟨r112, rfl, rfl, b113, k114⟩
    show tt Zi d 173 (48, [some (.inr (.inl 30)), some (.inl x), some (.inl y), some (.inl p_), none, none, none, none, none, none], [.inl r112, .inl (s 3043), .inr (.inl 30)], n, D, s, p, c) _
    have k114 : r112 = min (s 3041) (s 3042) := k114
    subst k114
    show tt Zi d 173 (48, [some (.inr (.inl 30)), some (.inl x), some (.inl y), some (.inl p_), none, none, none, none, none, none], [.inl (min (s 3041) (s 3042)), .inl (s 3043), .inr (.inl 30)], n, D, s, p, c) _
    refine tb_gt (x := (s 3043)) (y := (min (s 3041) (s 3042))) rfl rfl (by omega) (fun h115 => ?_) (fun h115 => ?_)
    · show tt Zi d 173 (65, [some (.inr (.inl 30)), some (.inl x), some (.inl y), some (.inl p_), none, none, none, none, none, none], [.inr (.inl 30)], n, D, s, p, c) _
      refine tt_k 8 (S' := (79, [some (.inr (.inl 30)), some (.inl x), some (.inl y), some (.inl p_), none, none, none, none, none, none], [.inl ((((s 3041) + (s 3042)) - (s 3043))), .inr (.inl 30)], n, D, s, p, c)) rfl ?_
      exact K8 ((((s 3041) + (s 3042)) - (s 3043)))  (by omega) (Or.inl ⟨h111, h115, rfl⟩)
    · show tt Zi d 173 (51, [some (.inr (.inl 30)), some (.inl x), some (.inl y), some (.inl p_), none, none, none, none, none, none], [.inr (.inl 30)], n, D, s, p, c) _
      refine tt_k 4 (S' := (59, [some (.inr (.inl 30)), some (.inl x), some (.inl y), some (.inl p_), none, none, none, none, none, none], [.inl (s 3042), .inl (s 3041), .inr (.inl 30)], n, D, s, p, c)) rfl ?_
      refine tt_cl (by omega) rfl (k_more (Zi := Zi) (D := D) (s := s) (p := p) (c := c) (by omega) hS hC (s 3041) (s 3042) (by omega) (by omega)) ?_
      rintro _ _ ⟨r116, rfl, rfl, b117, k118⟩
      show tt Zi d 173 (62, [some (.inr (.inl 30)), some (.inl x), some (.inl y), some (.inl p_), none, none, none, none, none, none], [.inl r116, .inr (.inl 30)], n, D, s, p, c) _
      have k118 : r116 = max (s 3041) (s 3042) := k118
      subst k118
      show tt Zi d 173 (62, [some (.inr (.inl 30)), some (.inl x), some (.inl y), some (.inl p_), none, none, none, none, none, none], [.inl (max (s 3041) (s 3042)), .inr (.inl 30)], n, D, s, p, c) _
      refine tt_k 1 (S' := (79, [some (.inr (.inl 30)), some (.inl x), some (.inl y), some (.inl p_), none, none, none, none, none, none], [.inl (max (s 3041) (s 3042)), .inr (.inl 30)], n, D, s, p, c)) rfl ?_
      exact K8 (max (s 3041) (s 3042))  (by omega) (Or.inr (Or.inl ⟨h111, h115, rfl⟩))
  · show tt Zi d 173 (19, [some (.inr (.inl 30)), some (.inl x), some (.inl y), some (.inl p_), none, none, none, none, none, none], [.inr (.inl 30)], n, D, s, p, c) _
    refine tt_k 4 (S' := (27, [some (.inr (.inl 30)), some (.inl x), some (.inl y), some (.inl p_), none, none, none, none, none, none], [.inl (s 3042), .inl (s 3041), .inr (.inl 30)], n, D, s, p, c)) rfl ?_
    refine tt_cl (by omega) rfl (k_less (Zi := Zi) (D := D) (s := s) (p := p) (c := c) (by omega) hS hC (s 3041) (s 3042) (by omega) (by omega)) ?_
    rintro _ _ ⟨r119, rfl, rfl, b120, k121⟩
    show tt Zi d 173 (30, [some (.inr (.inl 30)), some (.inl x), some (.inl y), some (.inl p_), none, none, none, none, none, none], [.inl r119, .inr (.inl 30)], n, D, s, p, c) _
    have k121 : r119 = min (s 3041) (s 3042) := k121
    subst k121
    show tt Zi d 173 (30, [some (.inr (.inl 30)), some (.inl x), some (.inl y), some (.inl p_), none, none, none, none, none, none], [.inl (min (s 3041) (s 3042)), .inr (.inl 30)], n, D, s, p, c) _
    refine tt_k 1 (S' := (79, [some (.inr (.inl 30)), some (.inl x), some (.inl y), some (.inl p_), none, none, none, none, none, none], [.inl (min (s 3041) (s 3042)), .inr (.inl 30)], n, D, s, p, c)) rfl ?_
    exact K8 (min (s 3041) (s 3042))  (by omega) (Or.inr (Or.inr (⟨h111, rfl⟩)))
