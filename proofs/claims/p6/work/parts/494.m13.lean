/-! the reference's plane, told -/
set_option maxRecDepth 100000 in
set_option maxHeartbeats 4000000 in
theorem k_planeT_L23 {Zi : Nat → Option (Nat × (Nat → Int))} {d n : Nat} {D : Nat → Nat × Nat} {s : Nat → Int} {p : Nat → Nat} {c : Nat → Nat → Int}  {Q : mi_Rs → mi_H → Prop} (hd : 6 ≤ d) (hS : bS s) (hC : bC D c) (B : Int) (C : Int) (y : Int) (b_y : 0 ≤ y ∧ y ≤ 63) (hc_mv : mv s) (hq0 : bt C B 4096 ≤ 17179869184 ∧ C = cb s) (hq1 : ∀ xx yy : Int, 0 ≤ xx → xx < s 3037 → 0 ≤ yy → yy < s 3038 → c 31 (s 3039 + 64 * yy + xx).toNat ≤ s 3017) (hq2 : s 3036 = 1 ∧ s 3050 = 0) (hq3 : y < s 3038)
  (hK : ∀ (x : Int) (o_3 : Option mi_V) (o_4 : Option mi_V) (o_5 : Option mi_V) (o_6 : Option mi_V) (s0 : Nat → Int) (c0 : Nat → Nat → Int) (b_x : 0 ≤ x ∧ x ≤ 64) (hS0 : bS s0) (hF0 : fr s s0 [3016, 3035, 3041, 3042, 3043, 3044, 3045, 3046, 3047, 3048]) (hC0 : bC D c0) (hG0 : frc c c0 [35, 36, 37, 38, 39, 44]) (i0 : w_ok (s0 3047) (s0 3048)) (i1 : 4096 * (w_u (s0 3016) (s0 3047) (s0 3048) + psi (s0 3035)) + pot s0 c0 ≤ bt C B (64 * y + x)) (i2 : pl s0 (64 * y + x) c0) (i3 : tb (s0 3037) (s0 3039) (s0 3017) (c0 44) x y) (i4 : s 3016 ≤ s0 3016) (i5 : 0 ≤ s0 3035 ∧ s0 3035 ≤ 22) (i6 : x ≤ s 3037), s 3037 ≤ x → tt Zi d 150 (204, [some (.inr (.inl 30)), some (.inl y), some (.inl x), o_3, o_4, o_5, o_6], [], n, D, s0, p, c0) Q) :
  ∀ (m : Nat) (x : Int) (o_3 : Option mi_V) (o_4 : Option mi_V) (o_5 : Option mi_V) (o_6 : Option mi_V) (s0 : Nat → Int) (c0 : Nat → Nat → Int) (b_x : 0 ≤ x ∧ x ≤ 64) (hS0 : bS s0) (hF0 : fr s s0 [3016, 3035, 3041, 3042, 3043, 3044, 3045, 3046, 3047, 3048]) (hC0 : bC D c0) (hG0 : frc c c0 [35, 36, 37, 38, 39, 44]) (i0 : w_ok (s0 3047) (s0 3048)) (i1 : 4096 * (w_u (s0 3016) (s0 3047) (s0 3048) + psi (s0 3035)) + pot s0 c0 ≤ bt C B (64 * y + x)) (i2 : pl s0 (64 * y + x) c0) (i3 : tb (s0 3037) (s0 3039) (s0 3017) (c0 44) x y) (i4 : s 3016 ≤ s0 3016) (i5 : 0 ≤ s0 3035 ∧ s0 3035 ≤ 22) (i6 : x ≤ s 3037), (s 3037 - x).toNat < m → tt Zi d 150 (23, [some (.inr (.inl 30)), some (.inl y), some (.inl x), o_3, o_4, o_5, o_6], [], n, D, s0, p, c0) Q := by
  intro m
  induction m with
  | zero => intro x o_3 o_4 o_5 o_6 s0 c0 b_x hS0 hF0 hC0 hG0 i0 i1 i2 i3 i4 i5 i6 hm; exact absurd hm (by omega)
  | succ m ih =>
    intro x o_3 o_4 o_5 o_6 s0 c0 b_x hS0 hF0 hC0 hG0 i0 i1 i2 i3 i4 i5 i6 hm
    have e1 : s0 3050 = s 3050 := hF0 3050 (by decide)
    have b2 : 0 ≤ (s0 3050) ∧ (s0 3050) ≤ 8 := hS0 3050
    have b3 : 0 ≤ (s 3050) ∧ (s 3050) ≤ 8 := hS 3050
    have e4 : s0 3036 = s 3036 := hF0 3036 (by decide)
    have b5 : 0 ≤ (s0 3036) ∧ (s0 3036) ≤ 1 := hS0 3036
    have b6 : 0 ≤ (s 3036) ∧ (s 3036) ≤ 1 := hS 3036
    have e7 : s0 3037 = s 3037 := hF0 3037 (by decide)
    have b8 : 0 ≤ (s0 3037) ∧ (s0 3037) ≤ 64 := hS0 3037
    have b9 : 0 ≤ (s 3037) ∧ (s 3037) ≤ 64 := hS 3037
    have e10 : s0 3038 = s 3038 := hF0 3038 (by decide)
    have b11 : 0 ≤ (s0 3038) ∧ (s0 3038) ≤ 64 := hS0 3038
    have b12 : 0 ≤ (s 3038) ∧ (s 3038) ≤ 64 := hS 3038
    have e13 : s0 3017 = s 3017 := hF0 3017 (by decide)
    have b14 : 0 ≤ (s0 3017) ∧ (s0 3017) ≤ 65535 := hS0 3017
    have b15 : 0 ≤ (s 3017) ∧ (s 3017) ≤ 65535 := hS 3017
    have e16 : s0 3039 = s 3039 := hF0 3039 (by decide)
    have b17 : 0 ≤ (s0 3039) ∧ (s0 3039) ≤ 8192 := hS0 3039
    have b18 : 0 ≤ (s 3039) ∧ (s 3039) ≤ 8192 := hS 3039
    have hc0_mv : mv s0 := mv_fr hF0 (by decide) hc_mv
    have mvx := mv_fx hc_mv
    have hcb := cb_bd (s := s)
    have hcv := hq1 x y (by omega)
    have hp0t := pot_0 (s := s0) (c := c0)
    have hps := psi_0 (p := s0 3035)
    refine tt_k 3 (S' := (28, [some (.inr (.inl 30)), some (.inl y), some (.inl x), o_3, o_4, o_5, o_6], [.inl (s0 3037), .inl x], n, D, s0, p, c0)) rfl ?_
    refine tb_ge (x := x) (y := (s0 3037)) rfl rfl (by omega) (fun h19 => ?_) (fun h19 => ?_)
    · show tt Zi d 150 (204, [some (.inr (.inl 30)), some (.inl y), some (.inl x), o_3, o_4, o_5, o_6], [], n, D, s0, p, c0) _
      exact hK x (o_3) (o_4) (o_5) (o_6) s0 c0 (by omega) hS0 hF0 hC0 hG0 i0 i1 i2 i3 i4 i5 i6 (by omega)
    · show tt Zi d 150 (31, [some (.inr (.inl 30)), some (.inl y), some (.inl x), o_3, o_4, o_5, o_6], [], n, D, s0, p, c0) _
      refine tt_k 2 (S' := (35, [some (.inr (.inl 30)), some (.inl y), some (.inl x), o_3, o_4, o_5, o_6], [.inl (s0 3050)], n, D, s0, p, c0)) rfl ?_
      refine tz_ne (x := (s0 3050)) rfl rfl (by omega) (fun h20 => ?_) (fun h20 => ?_)
      · exfalso; omega
      · show tt Zi d 150 (38, [some (.inr (.inl 30)), some (.inl y), some (.inl x), o_3, o_4, o_5, o_6], [], n, D, s0, p, c0) _
        refine tt_k 3 (S' := (41, [some (.inr (.inl 30)), some (.inl y), some (.inl x), o_3, o_4, o_5, o_6], [.inl y, .inl x, .inr (.inl 30)], n, D, s0, p, c0)) rfl ?_
        refine tt_cl (by omega) rfl (k_neighbours (Zi := Zi) (D := D) (s := s0) (p := p) (c := c0) (by omega) hS0 hC0 x y (by omega) (by omega) (show x < (s0 3037) by omega) i3) ?_
        rintro _ _ ⟨s21, rfl, rfl, hS21, f22, k23⟩
        have hc24 : mv s21 := mv_fr f22 (by decide) hc0_mv
        show tt Zi d 150 (44, [some (.inr (.inl 30)), some (.inl y), some (.inl x), o_3, o_4, o_5, o_6], [], n, D, s21, p, c0) _
        replace k23 : (0 ≤ (s21 3041) ∧ (s21 3041) ≤ (s0 3017)) ∧ (0 ≤ (s21 3042) ∧ (s21 3042) ≤ (s0 3017)) ∧ (0 ≤ (s21 3043) ∧ (s21 3043) ≤ (s0 3017)) ∧ (0 ≤ (s21 3044) ∧ (s21 3044) ≤ (s0 3017)) := k23
        have b25 : 0 ≤ (s21 3041) ∧ (s21 3041) ≤ 65535 := hS21 3041
        have b26 : 0 ≤ (s21 3042) ∧ (s21 3042) ≤ 65535 := hS21 3042
        have b27 : 0 ≤ (s21 3043) ∧ (s21 3043) ≤ 65535 := hS21 3043
        have b28 : 0 ≤ (s21 3044) ∧ (s21 3044) ≤ 65535 := hS21 3044
        have e29 : s21 3050 = (s0 3050) := (f22 3050 (by decide))
        have b30 : 0 ≤ (s21 3050) ∧ (s21 3050) ≤ 8 := hS21 3050
        have e31 : s21 3036 = (s0 3036) := (f22 3036 (by decide))
        have b32 : 0 ≤ (s21 3036) ∧ (s21 3036) ≤ 1 := hS21 3036
        have e33 : s21 3037 = (s0 3037) := (f22 3037 (by decide))
        have b34 : 0 ≤ (s21 3037) ∧ (s21 3037) ≤ 64 := hS21 3037
        have e35 : s21 3038 = (s0 3038) := (f22 3038 (by decide))
        have b36 : 0 ≤ (s21 3038) ∧ (s21 3038) ≤ 64 := hS21 3038
        have e37 : s21 3017 = (s0 3017) := (f22 3017 (by decide))
        have b38 : 0 ≤ (s21 3017) ∧ (s21 3017) ≤ 65535 := hS21 3017
        have e39 : s21 3039 = (s0 3039) := (f22 3039 (by decide))
        have b40 : 0 ≤ (s21 3039) ∧ (s21 3039) ≤ 8192 := hS21 3039
        have e41 : s21 3035 = (s0 3035) := (f22 3035 (by decide))
        have b42 : 0 ≤ (s21 3035) ∧ (s21 3035) ≤ 31 := hS21 3035
        have b43 : 0 ≤ (s0 3035) ∧ (s0 3035) ≤ 31 := hS0 3035
        have e44 : s21 3016 = (s0 3016) := (f22 3016 (by decide))
        have b45 : 0 ≤ (s21 3016) ∧ (s21 3016) ≤ 65536 := hS21 3016
        have b46 : 0 ≤ (s0 3016) ∧ (s0 3016) ≤ 65536 := hS0 3016
        have aS : s21 3016 = s0 3016 := f22 3016 (by decide)
        have aH : s21 3047 = s0 3047 := f22 3047 (by decide)
        have aR : s21 3048 = s0 3048 := f22 3048 (by decide)
        have aP : s21 3035 = s0 3035 := f22 3035 (by decide)
        have aL : s21 3026 = s0 3026 := f22 3026 (by decide)
        have aQ : s21 3025 = s0 3025 := f22 3025 (by decide)
        have aW : s21 3037 = s0 3037 := f22 3037 (by decide)
        have aB : s21 3039 = s0 3039 := f22 3039 (by decide)
        have aM : s21 3017 = s0 3017 := f22 3017 (by decide)
        have aT : s21 3036 = s0 3036 := f22 3036 (by decide)
        have aF : s21 3050 = s0 3050 := f22 3050 (by decide)
        have apot : pot s21 c0 = pot s0 c0 := pot_eq aQ aL rfl rfl
        have acb : cb s21 = C := by unfold cb; rw [aL, hF0 3026 (by decide), hq0.2]; rfl
        have aps : psi (s21 3035) = psi (s0 3035) := congrArg psi aP
        have b31 : c0 31 = c 31 := hG0 31 (by decide)
        have hcv := hcv (by omega) (by omega) (by omega)
        have hbg := bt_ge (C := C) (B := B) (u := 64 * y + x) (v := 4096) (by omega) (by omega)
        have hww : w_ok (s21 3047) (s21 3048) := by rw [aH, aR]; exact i0
        have hwu : w_u (s21 3016) (s21 3047) (s21 3048) = w_u (s0 3016) (s0 3047) (s0 3048) := by rw [aS, aH, aR]
        have hbs := bt_s (C := C) (B := B) (u := 64 * y + x)
        have hbd : 4096 * w_u (s21 3016) (s21 3047) (s21 3048) + pot s21 c0 ≤ bt C B (64 * y + x) - 4096 * psi (s0 3035) ∧ bt C B (64 * y + x) - 4096 * psi (s0 3035) + cb s21 ≤ 17179869184 := by rw [apot, acb, hwu]; omega
        have hpl : pl s21 (64 * y + x) c0 := pl_eq aQ rfl rfl rfl rfl i2
        have htb : tb (s21 3037) (s21 3039) (s21 3017) (c0 44) x y := by rw [aW, aB, aM]; exact i3
        have hcv1 : c0 31 (s21 3039 + 64 * y + x).toNat ≤ s21 3017 := by rw [aB, aM, b31, hF0 3039 (by decide), hF0 3017 (by decide)]; exact hcv
        have hcv2 : ∀ xx yy : Int, 0 ≤ xx → xx < s21 3037 → 0 ≤ yy → yy < s21 3038 → c0 31 (s21 3039 + 64 * yy + xx).toNat ≤ s21 3017 := by rw [aW, aB, aM, b31, f22 3038 (by decide), hF0 3037 (by decide), hF0 3038 (by decide), hF0 3039 (by decide), hF0 3017 (by decide)]; exact hq1
        have eH : s21 3038 = s 3038 := (f22 3038 (by decide)).trans (hF0 3038 (by decide))
        have hbt2 : 4096 * (w_u (s21 3016) (s21 3047) (s21 3048) + psi (s21 3035)) + pot s21 c0 ≤ bt (cb s21) B (64 * y + x) := by rw [apot, aps, hwu, acb]; exact i1
        have hbt3 : bt (cb s21) B 4096 ≤ 17179869184 := by rw [acb]; exact hq0.1
        refine tt_k 6 (S' := (54, [some (.inr (.inl 30)), some (.inl y), some (.inl x), o_3, o_4, o_5, o_6], [.inl ((s21 3044) - (s21 3042)), .inr (.inl 30)], n, D, s21, p, c0)) rfl ?_
        refine tt_cl (by omega) rfl (k_gradeOf (Zi := Zi) (D := D) (s := s21) (p := p) (c := c0) (by omega) hS21 hC0 ((s21 3044) - (s21 3042)) (by omega)) ?_
        rintro _ _ ⟨r47, rfl, rfl, b48⟩
        show tt Zi d 150 (57, [some (.inr (.inl 30)), some (.inl y), some (.inl x), o_3, o_4, o_5, o_6], [.inl r47], n, D, s21, p, c0) _
        refine tt_k 7 (S' := (68, [some (.inr (.inl 30)), some (.inl y), some (.inl x), some (.inl r47), o_4, o_5, o_6], [.inl ((s21 3042) - (s21 3043)), .inr (.inl 30)], n, D, s21, p, c0)) rfl ?_
        refine tt_cl (by omega) rfl (k_gradeOf (Zi := Zi) (D := D) (s := s21) (p := p) (c := c0) (by omega) hS21 hC0 ((s21 3042) - (s21 3043)) (by omega)) ?_
        rintro _ _ ⟨r49, rfl, rfl, b50⟩
        show tt Zi d 150 (71, [some (.inr (.inl 30)), some (.inl y), some (.inl x), some (.inl r47), o_4, o_5, o_6], [.inl r49], n, D, s21, p, c0) _
        refine tt_k 7 (S' := (83, [some (.inr (.inl 30)), some (.inl y), some (.inl x), some (.inl r47), some (.inl r49), o_5, o_6], [.inl ((s21 3043) - (s21 3041)), .inr (.inl 30)], n, D, s21, p, c0)) rfl ?_
        refine tt_cl (by omega) rfl (k_gradeOf (Zi := Zi) (D := D) (s := s21) (p := p) (c := c0) (by omega) hS21 hC0 ((s21 3043) - (s21 3041)) (by omega)) ?_
        rintro _ _ ⟨r51, rfl, rfl, b52⟩
        show tt Zi d 150 (86, [some (.inr (.inl 30)), some (.inl y), some (.inl x), some (.inl r47), some (.inl r49), o_5, o_6], [.inl r51], n, D, s21, p, c0) _
        refine tt_k 2 (S' := (89, [some (.inr (.inl 30)), some (.inl y), some (.inl x), some (.inl r47), some (.inl r49), some (.inl r51), o_6], [.inl r47], n, D, s21, p, c0)) rfl ?_
        refine tz_ne (x := r47) rfl rfl (by omega) (fun h53 => ?_) (fun h53 => ?_)
        · show tt Zi d 150 (130, [some (.inr (.inl 30)), some (.inl y), some (.inl x), some (.inl r47), some (.inl r49), some (.inl r51), o_6], [], n, D, s21, p, c0) _
          refine tt_k 2 (S' := (132, [some (.inr (.inl 30)), some (.inl y), some (.inl x), some (.inl r47), some (.inl r49), some (.inl r51), o_6], [.inl r47, .inr (.inl 30)], n, D, s21, p, c0)) rfl ?_
          have K55 : ∀ (j54 : Int) , (0 ≤ j54 ∧ j54 ≤ 1) → ((r47 < 0 ∧ j54 = 1) ∨ (0 ≤ r47 ∧ r47 ≠ 0 ∧ j54 = 0) ∨ (0 ≤ r47 ∧ r47 = 0 ∧ r49 < 0 ∧ j54 = 1) ∨ (0 ≤ r47 ∧ r47 = 0 ∧ 0 ≤ r49 ∧ r49 ≠ 0 ∧ j54 = 0) ∨ (0 ≤ r47 ∧ r47 = 0 ∧ 0 ≤ r49 ∧ r49 = 0 ∧ 0 ≤ r51 ∧ j54 = 0) ∨ (0 ≤ r47 ∧ r47 = 0 ∧ 0 ≤ r49 ∧ r49 = 0 ∧ r51 < 0 ∧ j54 = 1)) → tt Zi d 150 (159, [some (.inr (.inl 30)), some (.inl y), some (.inl x), some (.inl r47), some (.inl r49), some (.inl r51), o_6], [.inl j54, .inr (.inl 30)], n, D, s21, p, c0) Q := by
            intro j54 b57 hj56
            refine tt_ptb (x := j54) rfl rfl rfl rfl rfl (by omega) ?_
            show tt Zi d 150 (162, [some (.inr (.inl 30)), some (.inl y), some (.inl x), some (.inl r47), some (.inl r49), some (.inl r51), o_6], [], n, D, (us s21 3046 j54), p, c0) _
            refine tt_k 14 (S' := (181, [some (.inr (.inl 30)), some (.inl y), some (.inl x), some (.inl r47), some (.inl r49), some (.inl r51), some (.inl ((((81 * r47) + (9 * r49)) + r51)))], [.inr (.inl 30), .inl y, .inl x, .inr (.inl 30)], n, D, (us s21 3046 j54), p, c0)) rfl ?_
            refine tt_k 1 (S' := (184, [some (.inr (.inl 30)), some (.inl y), some (.inl x), some (.inl r47), some (.inl r49), some (.inl r51), some (.inl ((((81 * r47) + (9 * r49)) + r51)))], [.inl j54, .inl y, .inl x, .inr (.inl 30)], n, D, (us s21 3046 j54), p, c0)) rfl ?_
            have K59 : ∀ (j58 : Int) , (-364 ≤ j58 ∧ j58 ≤ 364) → (0 ≤ j58 ∧ j58 ≤ 364) → (True) → tt Zi d 150 (195, [some (.inr (.inl 30)), some (.inl y), some (.inl x), some (.inl r47), some (.inl r49), some (.inl r51), some (.inl ((((81 * r47) + (9 * r49)) + r51)))], [.inl j58, .inl y, .inl x, .inr (.inl 30)], n, D, (us s21 3046 j54), p, c0) Q := by
              intro j58 b61 b62 hj60
              have b63 : 0 ≤ (s21 3047) ∧ (s21 3047) ≤ 255 := hS21 3047
              have b64 : 0 ≤ (s21 3048) ∧ (s21 3048) ≤ 8 := hS21 3048
              refine tt_cl (by omega) rfl (k_regT (Zi := Zi) (D := D) (s := (us s21 3046 j54)) (p := p) (c := c0) (by omega) (bS_us hS21 (show 0 ≤ j54 ∧ j54 ≤ 1 by omega)) hC0 (64 * y + x) (bt C B (64 * y + x) - 4096 * psi (s0 3035)) x y j58 (by omega) (by omega) (by omega) (mv_us (by decide) hc24) (show (s21 3036) = 1 ∧ (s21 3050) = 0 ∧ x < (s21 3037) by omega) (show (0 ≤ (s21 3041) ∧ (s21 3041) ≤ (s21 3017)) ∧ (0 ≤ (s21 3042) ∧ (s21 3042) ≤ (s21 3017)) ∧ (0 ≤ (s21 3043) ∧ (s21 3043) ≤ (s21 3017)) by omega) (pl_eq (s := s21) rfl rfl rfl rfl rfl hpl) (show 0 ≤ (64 * y + x) ∧ (64 * y + x) ≤ 4095 by omega) hww hbd hcv1 htb) ?_
              rintro _ _ ⟨s65, c66, rfl, rfl, hS65, hC66, f67, g68, k69, k70, k71, k72, k73⟩
              have hc74 : mv s65 := mv_fr f67 (by decide) (mv_us (by decide) hc24)
              show tt Zi d 150 (198, [some (.inr (.inl 30)), some (.inl y), some (.inl x), some (.inl r47), some (.inl r49), some (.inl r51), some (.inl ((((81 * r47) + (9 * r49)) + r51)))], [], n, D, s65, p, c66) _
              replace k69 : w_ok ((s65 3047)) ((s65 3048)) := k69
              replace k71 : pl s65 ((64 * y + x) + 1) c66 := k71
              replace k72 : tb ((s65 3037)) ((s65 3039)) ((s65 3017)) ((c66 44)) (x + 1) y := k72
              replace k73 : (s21 3016) ≤ (s65 3016) := k73
              have b75 : 0 ≤ (s65 3047) ∧ (s65 3047) ≤ 255 := hS65 3047
              have b76 : 0 ≤ (s65 3048) ∧ (s65 3048) ≤ 8 := hS65 3048
              have b77 : 0 ≤ (s65 3016) ∧ (s65 3016) ≤ 65536 := hS65 3016
              have b78 : 0 ≤ (s65 3037) ∧ (s65 3037) ≤ 64 := hS65 3037
              have b79 : 0 ≤ (s65 3039) ∧ (s65 3039) ≤ 8192 := hS65 3039
              have b80 : 0 ≤ (s65 3017) ∧ (s65 3017) ≤ 65535 := hS65 3017
              have e81 : s65 3050 = (s21 3050) := (f67 3050 (by decide))
              have b82 : 0 ≤ (s65 3050) ∧ (s65 3050) ≤ 8 := hS65 3050
              have e83 : s65 3036 = (s21 3036) := (f67 3036 (by decide))
              have b84 : 0 ≤ (s65 3036) ∧ (s65 3036) ≤ 1 := hS65 3036
              have e85 : s65 3037 = (s21 3037) := (f67 3037 (by decide))
              have e86 : s65 3038 = (s21 3038) := (f67 3038 (by decide))
              have b87 : 0 ≤ (s65 3038) ∧ (s65 3038) ≤ 64 := hS65 3038
              have e88 : s65 3017 = (s21 3017) := (f67 3017 (by decide))
              have e89 : s65 3039 = (s21 3039) := (f67 3039 (by decide))
              have e90 : s65 3035 = (s21 3035) := (f67 3035 (by decide))
              have b91 : 0 ≤ (s65 3035) ∧ (s65 3035) ≤ 31 := hS65 3035
              have e92 : psi (s65 3035) = psi (s0 3035) := congrArg psi (by omega)
              refine tt_k 2 (S' := (23, [some (.inr (.inl 30)), some (.inl y), some (.inl (x + 1)), some (.inl r47), some (.inl r49), some (.inl r51), some (.inl ((((81 * r47) + (9 * r49)) + r51)))], [], n, D, s65, p, c66)) rfl ?_
              have hxe : 64 * y + (x + 1) = 64 * y + x + 1 := by omega
              exact ih (x + 1) (some (.inl r47)) (some (.inl r49)) (some (.inl r51)) (some (.inl ((((81 * r47) + (9 * r49)) + r51)))) s65 c66 (by omega) hS65 (fr_tr (fr_us (by decide) (fr_tr hF0 f22 (by decide))) f67 (by decide)) hC66 (frc_tr hG0 g68 (by decide)) k69 (by rw [hxe, hbs]; have hx1 := k70; have hx2 : cb (us s21 3046 j54) = C := acb; rw [hx2] at hx1; omega) (by rw [hxe]; exact k71) k72 (show s 3016 ≤ (s65 3016) by omega) (show 0 ≤ (s65 3035) ∧ (s65 3035) ≤ 22 by omega) (show (x + 1) ≤ s 3037 by omega) (show (s 3037 - (x + 1)).toNat < m by omega)
            refine tz_eq (x := j54) rfl rfl (by omega) (fun h93 => ?_) (fun h93 => ?_)
            · show tt Zi d 150 (193, [some (.inr (.inl 30)), some (.inl y), some (.inl x), some (.inl r47), some (.inl r49), some (.inl r51), some (.inl ((((81 * r47) + (9 * r49)) + r51)))], [.inl y, .inl x, .inr (.inl 30)], n, D, (us s21 3046 j54), p, c0) _
              refine tt_k 1 (S' := (195, [some (.inr (.inl 30)), some (.inl y), some (.inl x), some (.inl r47), some (.inl r49), some (.inl r51), some (.inl ((((81 * r47) + (9 * r49)) + r51)))], [.inl ((((81 * r47) + (9 * r49)) + r51)), .inl y, .inl x, .inr (.inl 30)], n, D, (us s21 3046 j54), p, c0)) rfl ?_
              exact K59 ((((81 * r47) + (9 * r49)) + r51))  (by omega) (by omega) (trivial)
            · show tt Zi d 150 (187, [some (.inr (.inl 30)), some (.inl y), some (.inl x), some (.inl r47), some (.inl r49), some (.inl r51), some (.inl ((((81 * r47) + (9 * r49)) + r51)))], [.inl y, .inl x, .inr (.inl 30)], n, D, (us s21 3046 j54), p, c0) _
              refine tt_k 3 (S' := (195, [some (.inr (.inl 30)), some (.inl y), some (.inl x), some (.inl r47), some (.inl r49), some (.inl r51), some (.inl ((((81 * r47) + (9 * r49)) + r51)))], [.inl ((-(((81 * r47) + (9 * r49)) + r51))), .inl y, .inl x, .inr (.inl 30)], n, D, (us s21 3046 j54), p, c0)) rfl ?_
              exact K59 ((-(((81 * r47) + (9 * r49)) + r51)))  (by omega) (by omega) (trivial)
          refine tz_lt (x := r47) rfl rfl (by omega) (fun h94 => ?_) (fun h94 => ?_)
          · show tt Zi d 150 (154, [some (.inr (.inl 30)), some (.inl y), some (.inl x), some (.inl r47), some (.inl r49), some (.inl r51), o_6], [.inr (.inl 30)], n, D, s21, p, c0) _
            refine tt_k 2 (S' := (159, [some (.inr (.inl 30)), some (.inl y), some (.inl x), some (.inl r47), some (.inl r49), some (.inl r51), o_6], [.inl 1, .inr (.inl 30)], n, D, s21, p, c0)) rfl ?_
            exact K55 1  (by omega) (Or.inl ⟨h94, rfl⟩)
          · show tt Zi d 150 (135, [some (.inr (.inl 30)), some (.inl y), some (.inl x), some (.inl r47), some (.inl r49), some (.inl r51), o_6], [.inr (.inl 30)], n, D, s21, p, c0) _
            refine tt_k 1 (S' := (136, [some (.inr (.inl 30)), some (.inl y), some (.inl x), some (.inl r47), some (.inl r49), some (.inl r51), o_6], [.inl r47, .inr (.inl 30)], n, D, s21, p, c0)) rfl ?_
            refine tz_ne (x := r47) rfl rfl (by omega) (fun h95 => ?_) (fun h95 => ?_)
            · show tt Zi d 150 (158, [some (.inr (.inl 30)), some (.inl y), some (.inl x), some (.inl r47), some (.inl r49), some (.inl r51), o_6], [.inr (.inl 30)], n, D, s21, p, c0) _
              refine tt_k 1 (S' := (159, [some (.inr (.inl 30)), some (.inl y), some (.inl x), some (.inl r47), some (.inl r49), some (.inl r51), o_6], [.inl 0, .inr (.inl 30)], n, D, s21, p, c0)) rfl ?_
              exact K55 0  (by omega) (Or.inr (Or.inl ⟨h94, h95, rfl⟩))
            · show tt Zi d 150 (139, [some (.inr (.inl 30)), some (.inl y), some (.inl x), some (.inl r47), some (.inl r49), some (.inl r51), o_6], [.inr (.inl 30)], n, D, s21, p, c0) _
              refine tt_k 1 (S' := (141, [some (.inr (.inl 30)), some (.inl y), some (.inl x), some (.inl r47), some (.inl r49), some (.inl r51), o_6], [.inl r49, .inr (.inl 30)], n, D, s21, p, c0)) rfl ?_
              refine tz_lt (x := r49) rfl rfl (by omega) (fun h96 => ?_) (fun h96 => ?_)
              · show tt Zi d 150 (154, [some (.inr (.inl 30)), some (.inl y), some (.inl x), some (.inl r47), some (.inl r49), some (.inl r51), o_6], [.inr (.inl 30)], n, D, s21, p, c0) _
                refine tt_k 2 (S' := (159, [some (.inr (.inl 30)), some (.inl y), some (.inl x), some (.inl r47), some (.inl r49), some (.inl r51), o_6], [.inl 1, .inr (.inl 30)], n, D, s21, p, c0)) rfl ?_
                exact K55 1  (by omega) (Or.inr (Or.inr (Or.inl ⟨h94, h95, h96, rfl⟩)))
              · show tt Zi d 150 (144, [some (.inr (.inl 30)), some (.inl y), some (.inl x), some (.inl r47), some (.inl r49), some (.inl r51), o_6], [.inr (.inl 30)], n, D, s21, p, c0) _
                refine tt_k 1 (S' := (146, [some (.inr (.inl 30)), some (.inl y), some (.inl x), some (.inl r47), some (.inl r49), some (.inl r51), o_6], [.inl r49, .inr (.inl 30)], n, D, s21, p, c0)) rfl ?_
                refine tz_ne (x := r49) rfl rfl (by omega) (fun h97 => ?_) (fun h97 => ?_)
                · show tt Zi d 150 (158, [some (.inr (.inl 30)), some (.inl y), some (.inl x), some (.inl r47), some (.inl r49), some (.inl r51), o_6], [.inr (.inl 30)], n, D, s21, p, c0) _
                  refine tt_k 1 (S' := (159, [some (.inr (.inl 30)), some (.inl y), some (.inl x), some (.inl r47), some (.inl r49), some (.inl r51), o_6], [.inl 0, .inr (.inl 30)], n, D, s21, p, c0)) rfl ?_
                  exact K55 0  (by omega) (Or.inr (Or.inr (Or.inr (Or.inl ⟨h94, h95, h96, h97, rfl⟩))))
                · show tt Zi d 150 (149, [some (.inr (.inl 30)), some (.inl y), some (.inl x), some (.inl r47), some (.inl r49), some (.inl r51), o_6], [.inr (.inl 30)], n, D, s21, p, c0) _
                  refine tt_k 1 (S' := (151, [some (.inr (.inl 30)), some (.inl y), some (.inl x), some (.inl r47), some (.inl r49), some (.inl r51), o_6], [.inl r51, .inr (.inl 30)], n, D, s21, p, c0)) rfl ?_
                  refine tz_ge (x := r51) rfl rfl (by omega) (fun h98 => ?_) (fun h98 => ?_)
                  · show tt Zi d 150 (158, [some (.inr (.inl 30)), some (.inl y), some (.inl x), some (.inl r47), some (.inl r49), some (.inl r51), o_6], [.inr (.inl 30)], n, D, s21, p, c0) _
                    refine tt_k 1 (S' := (159, [some (.inr (.inl 30)), some (.inl y), some (.inl x), some (.inl r47), some (.inl r49), some (.inl r51), o_6], [.inl 0, .inr (.inl 30)], n, D, s21, p, c0)) rfl ?_
                    exact K55 0  (by omega) (Or.inr (Or.inr (Or.inr (Or.inr (Or.inl ⟨h94, h95, h96, h97, h98, rfl⟩)))))
                  · show tt Zi d 150 (154, [some (.inr (.inl 30)), some (.inl y), some (.inl x), some (.inl r47), some (.inl r49), some (.inl r51), o_6], [.inr (.inl 30)], n, D, s21, p, c0) _
                    refine tt_k 2 (S' := (159, [some (.inr (.inl 30)), some (.inl y), some (.inl x), some (.inl r47), some (.inl r49), some (.inl r51), o_6], [.inl 1, .inr (.inl 30)], n, D, s21, p, c0)) rfl ?_
                    exact K55 1  (by omega) (Or.inr (Or.inr (Or.inr (Or.inr (Or.inr (⟨h94, h95, h96, h97, h98, rfl⟩))))))
        · show tt Zi d 150 (92, [some (.inr (.inl 30)), some (.inl y), some (.inl x), some (.inl r47), some (.inl r49), some (.inl r51), o_6], [], n, D, s21, p, c0) _
          refine tt_k 1 (S' := (94, [some (.inr (.inl 30)), some (.inl y), some (.inl x), some (.inl r47), some (.inl r49), some (.inl r51), o_6], [.inl r49], n, D, s21, p, c0)) rfl ?_
          refine tz_ne (x := r49) rfl rfl (by omega) (fun h99 => ?_) (fun h99 => ?_)
          · show tt Zi d 150 (130, [some (.inr (.inl 30)), some (.inl y), some (.inl x), some (.inl r47), some (.inl r49), some (.inl r51), o_6], [], n, D, s21, p, c0) _
            refine tt_k 2 (S' := (132, [some (.inr (.inl 30)), some (.inl y), some (.inl x), some (.inl r47), some (.inl r49), some (.inl r51), o_6], [.inl r47, .inr (.inl 30)], n, D, s21, p, c0)) rfl ?_
            have K101 : ∀ (j100 : Int) , (0 ≤ j100 ∧ j100 ≤ 1) → ((0 ≤ r47 ∧ r47 = 0 ∧ r49 < 0 ∧ j100 = 1) ∨ (0 ≤ r47 ∧ r47 = 0 ∧ 0 ≤ r49 ∧ r49 ≠ 0 ∧ j100 = 0) ∨ (0 ≤ r47 ∧ r47 = 0 ∧ 0 ≤ r49 ∧ r49 = 0 ∧ 0 ≤ r51 ∧ j100 = 0) ∨ (0 ≤ r47 ∧ r47 = 0 ∧ 0 ≤ r49 ∧ r49 = 0 ∧ r51 < 0 ∧ j100 = 1)) → tt Zi d 150 (159, [some (.inr (.inl 30)), some (.inl y), some (.inl x), some (.inl r47), some (.inl r49), some (.inl r51), o_6], [.inl j100, .inr (.inl 30)], n, D, s21, p, c0) Q := by
              intro j100 b103 hj102
              refine tt_ptb (x := j100) rfl rfl rfl rfl rfl (by omega) ?_
              show tt Zi d 150 (162, [some (.inr (.inl 30)), some (.inl y), some (.inl x), some (.inl r47), some (.inl r49), some (.inl r51), o_6], [], n, D, (us s21 3046 j100), p, c0) _
              refine tt_k 14 (S' := (181, [some (.inr (.inl 30)), some (.inl y), some (.inl x), some (.inl r47), some (.inl r49), some (.inl r51), some (.inl ((((81 * r47) + (9 * r49)) + r51)))], [.inr (.inl 30), .inl y, .inl x, .inr (.inl 30)], n, D, (us s21 3046 j100), p, c0)) rfl ?_
              refine tt_k 1 (S' := (184, [some (.inr (.inl 30)), some (.inl y), some (.inl x), some (.inl r47), some (.inl r49), some (.inl r51), some (.inl ((((81 * r47) + (9 * r49)) + r51)))], [.inl j100, .inl y, .inl x, .inr (.inl 30)], n, D, (us s21 3046 j100), p, c0)) rfl ?_
              have K105 : ∀ (j104 : Int) , (-40 ≤ j104 ∧ j104 ≤ 40) → (0 ≤ j104 ∧ j104 ≤ 364) → (True) → tt Zi d 150 (195, [some (.inr (.inl 30)), some (.inl y), some (.inl x), some (.inl r47), some (.inl r49), some (.inl r51), some (.inl ((((81 * r47) + (9 * r49)) + r51)))], [.inl j104, .inl y, .inl x, .inr (.inl 30)], n, D, (us s21 3046 j100), p, c0) Q := by
                intro j104 b107 b108 hj106
                have b109 : 0 ≤ (s21 3047) ∧ (s21 3047) ≤ 255 := hS21 3047
                have b110 : 0 ≤ (s21 3048) ∧ (s21 3048) ≤ 8 := hS21 3048
                refine tt_cl (by omega) rfl (k_regT (Zi := Zi) (D := D) (s := (us s21 3046 j100)) (p := p) (c := c0) (by omega) (bS_us hS21 (show 0 ≤ j100 ∧ j100 ≤ 1 by omega)) hC0 (64 * y + x) (bt C B (64 * y + x) - 4096 * psi (s0 3035)) x y j104 (by omega) (by omega) (by omega) (mv_us (by decide) hc24) (show (s21 3036) = 1 ∧ (s21 3050) = 0 ∧ x < (s21 3037) by omega) (show (0 ≤ (s21 3041) ∧ (s21 3041) ≤ (s21 3017)) ∧ (0 ≤ (s21 3042) ∧ (s21 3042) ≤ (s21 3017)) ∧ (0 ≤ (s21 3043) ∧ (s21 3043) ≤ (s21 3017)) by omega) (pl_eq (s := s21) rfl rfl rfl rfl rfl hpl) (show 0 ≤ (64 * y + x) ∧ (64 * y + x) ≤ 4095 by omega) hww hbd hcv1 htb) ?_
                rintro _ _ ⟨s111, c112, rfl, rfl, hS111, hC112, f113, g114, k115, k116, k117, k118, k119⟩
                have hc120 : mv s111 := mv_fr f113 (by decide) (mv_us (by decide) hc24)
                show tt Zi d 150 (198, [some (.inr (.inl 30)), some (.inl y), some (.inl x), some (.inl r47), some (.inl r49), some (.inl r51), some (.inl ((((81 * r47) + (9 * r49)) + r51)))], [], n, D, s111, p, c112) _
                replace k115 : w_ok ((s111 3047)) ((s111 3048)) := k115
                replace k117 : pl s111 ((64 * y + x) + 1) c112 := k117
                replace k118 : tb ((s111 3037)) ((s111 3039)) ((s111 3017)) ((c112 44)) (x + 1) y := k118
                replace k119 : (s21 3016) ≤ (s111 3016) := k119
                have b121 : 0 ≤ (s111 3047) ∧ (s111 3047) ≤ 255 := hS111 3047
                have b122 : 0 ≤ (s111 3048) ∧ (s111 3048) ≤ 8 := hS111 3048
                have b123 : 0 ≤ (s111 3016) ∧ (s111 3016) ≤ 65536 := hS111 3016
                have b124 : 0 ≤ (s111 3037) ∧ (s111 3037) ≤ 64 := hS111 3037
                have b125 : 0 ≤ (s111 3039) ∧ (s111 3039) ≤ 8192 := hS111 3039
                have b126 : 0 ≤ (s111 3017) ∧ (s111 3017) ≤ 65535 := hS111 3017
                have e127 : s111 3050 = (s21 3050) := (f113 3050 (by decide))
                have b128 : 0 ≤ (s111 3050) ∧ (s111 3050) ≤ 8 := hS111 3050
                have e129 : s111 3036 = (s21 3036) := (f113 3036 (by decide))
                have b130 : 0 ≤ (s111 3036) ∧ (s111 3036) ≤ 1 := hS111 3036
                have e131 : s111 3037 = (s21 3037) := (f113 3037 (by decide))
                have e132 : s111 3038 = (s21 3038) := (f113 3038 (by decide))
                have b133 : 0 ≤ (s111 3038) ∧ (s111 3038) ≤ 64 := hS111 3038
                have e134 : s111 3017 = (s21 3017) := (f113 3017 (by decide))
                have e135 : s111 3039 = (s21 3039) := (f113 3039 (by decide))
                have e136 : s111 3035 = (s21 3035) := (f113 3035 (by decide))
                have b137 : 0 ≤ (s111 3035) ∧ (s111 3035) ≤ 31 := hS111 3035
                have e138 : psi (s111 3035) = psi (s0 3035) := congrArg psi (by omega)
                refine tt_k 2 (S' := (23, [some (.inr (.inl 30)), some (.inl y), some (.inl (x + 1)), some (.inl r47), some (.inl r49), some (.inl r51), some (.inl ((((81 * r47) + (9 * r49)) + r51)))], [], n, D, s111, p, c112)) rfl ?_
                have hxe : 64 * y + (x + 1) = 64 * y + x + 1 := by omega
                exact ih (x + 1) (some (.inl r47)) (some (.inl r49)) (some (.inl r51)) (some (.inl ((((81 * r47) + (9 * r49)) + r51)))) s111 c112 (by omega) hS111 (fr_tr (fr_us (by decide) (fr_tr hF0 f22 (by decide))) f113 (by decide)) hC112 (frc_tr hG0 g114 (by decide)) k115 (by rw [hxe, hbs]; have hx1 := k116; have hx2 : cb (us s21 3046 j100) = C := acb; rw [hx2] at hx1; omega) (by rw [hxe]; exact k117) k118 (show s 3016 ≤ (s111 3016) by omega) (show 0 ≤ (s111 3035) ∧ (s111 3035) ≤ 22 by omega) (show (x + 1) ≤ s 3037 by omega) (show (s 3037 - (x + 1)).toNat < m by omega)
              refine tz_eq (x := j100) rfl rfl (by omega) (fun h139 => ?_) (fun h139 => ?_)
              · show tt Zi d 150 (193, [some (.inr (.inl 30)), some (.inl y), some (.inl x), some (.inl r47), some (.inl r49), some (.inl r51), some (.inl ((((81 * r47) + (9 * r49)) + r51)))], [.inl y, .inl x, .inr (.inl 30)], n, D, (us s21 3046 j100), p, c0) _
                refine tt_k 1 (S' := (195, [some (.inr (.inl 30)), some (.inl y), some (.inl x), some (.inl r47), some (.inl r49), some (.inl r51), some (.inl ((((81 * r47) + (9 * r49)) + r51)))], [.inl ((((81 * r47) + (9 * r49)) + r51)), .inl y, .inl x, .inr (.inl 30)], n, D, (us s21 3046 j100), p, c0)) rfl ?_
                exact K105 ((((81 * r47) + (9 * r49)) + r51))  (by omega) (by omega) (trivial)
              · show tt Zi d 150 (187, [some (.inr (.inl 30)), some (.inl y), some (.inl x), some (.inl r47), some (.inl r49), some (.inl r51), some (.inl ((((81 * r47) + (9 * r49)) + r51)))], [.inl y, .inl x, .inr (.inl 30)], n, D, (us s21 3046 j100), p, c0) _
                refine tt_k 3 (S' := (195, [some (.inr (.inl 30)), some (.inl y), some (.inl x), some (.inl r47), some (.inl r49), some (.inl r51), some (.inl ((((81 * r47) + (9 * r49)) + r51)))], [.inl ((-(((81 * r47) + (9 * r49)) + r51))), .inl y, .inl x, .inr (.inl 30)], n, D, (us s21 3046 j100), p, c0)) rfl ?_
                exact K105 ((-(((81 * r47) + (9 * r49)) + r51)))  (by omega) (by omega) (trivial)
            refine tz_lt (x := r47) rfl rfl (by omega) (fun h140 => ?_) (fun h140 => ?_)
            · exfalso; omega
            · show tt Zi d 150 (135, [some (.inr (.inl 30)), some (.inl y), some (.inl x), some (.inl r47), some (.inl r49), some (.inl r51), o_6], [.inr (.inl 30)], n, D, s21, p, c0) _
              refine tt_k 1 (S' := (136, [some (.inr (.inl 30)), some (.inl y), some (.inl x), some (.inl r47), some (.inl r49), some (.inl r51), o_6], [.inl r47, .inr (.inl 30)], n, D, s21, p, c0)) rfl ?_
              refine tz_ne (x := r47) rfl rfl (by omega) (fun h141 => ?_) (fun h141 => ?_)
              · exfalso; omega
              · show tt Zi d 150 (139, [some (.inr (.inl 30)), some (.inl y), some (.inl x), some (.inl r47), some (.inl r49), some (.inl r51), o_6], [.inr (.inl 30)], n, D, s21, p, c0) _
                refine tt_k 1 (S' := (141, [some (.inr (.inl 30)), some (.inl y), some (.inl x), some (.inl r47), some (.inl r49), some (.inl r51), o_6], [.inl r49, .inr (.inl 30)], n, D, s21, p, c0)) rfl ?_
                refine tz_lt (x := r49) rfl rfl (by omega) (fun h142 => ?_) (fun h142 => ?_)
                · show tt Zi d 150 (154, [some (.inr (.inl 30)), some (.inl y), some (.inl x), some (.inl r47), some (.inl r49), some (.inl r51), o_6], [.inr (.inl 30)], n, D, s21, p, c0) _
                  refine tt_k 2 (S' := (159, [some (.inr (.inl 30)), some (.inl y), some (.inl x), some (.inl r47), some (.inl r49), some (.inl r51), o_6], [.inl 1, .inr (.inl 30)], n, D, s21, p, c0)) rfl ?_
                  exact K101 1  (by omega) (Or.inl ⟨h140, h141, h142, rfl⟩)
                · show tt Zi d 150 (144, [some (.inr (.inl 30)), some (.inl y), some (.inl x), some (.inl r47), some (.inl r49), some (.inl r51), o_6], [.inr (.inl 30)], n, D, s21, p, c0) _
                  refine tt_k 1 (S' := (146, [some (.inr (.inl 30)), some (.inl y), some (.inl x), some (.inl r47), some (.inl r49), some (.inl r51), o_6], [.inl r49, .inr (.inl 30)], n, D, s21, p, c0)) rfl ?_
                  refine tz_ne (x := r49) rfl rfl (by omega) (fun h143 => ?_) (fun h143 => ?_)
                  · show tt Zi d 150 (158, [some (.inr (.inl 30)), some (.inl y), some (.inl x), some (.inl r47), some (.inl r49), some (.inl r51), o_6], [.inr (.inl 30)], n, D, s21, p, c0) _
                    refine tt_k 1 (S' := (159, [some (.inr (.inl 30)), some (.inl y), some (.inl x), some (.inl r47), some (.inl r49), some (.inl r51), o_6], [.inl 0, .inr (.inl 30)], n, D, s21, p, c0)) rfl ?_
                    exact K101 0  (by omega) (Or.inr (Or.inl ⟨h140, h141, h142, h143, rfl⟩))
                  · show tt Zi d 150 (149, [some (.inr (.inl 30)), some (.inl y), some (.inl x), some (.inl r47), some (.inl r49), some (.inl r51), o_6], [.inr (.inl 30)], n, D, s21, p, c0) _
                    refine tt_k 1 (S' := (151, [some (.inr (.inl 30)), some (.inl y), some (.inl x), some (.inl r47), some (.inl r49), some (.inl r51), o_6], [.inl r51, .inr (.inl 30)], n, D, s21, p, c0)) rfl ?_
                    refine tz_ge (x := r51) rfl rfl (by omega) (fun h144 => ?_) (fun h144 => ?_)
                    · show tt Zi d 150 (158, [some (.inr (.inl 30)), some (.inl y), some (.inl x), some (.inl r47), some (.inl r49), some (.inl r51), o_6], [.inr (.inl 30)], n, D, s21, p, c0) _
                      refine tt_k 1 (S' := (159, [some (.inr (.inl 30)), some (.inl y), some (.inl x), some (.inl r47), some (.inl r49), some (.inl r51), o_6], [.inl 0, .inr (.inl 30)], n, D, s21, p, c0)) rfl ?_
                      exact K101 0  (by omega) (Or.inr (Or.inr (Or.inl ⟨h140, h141, h142, h143, h144, rfl⟩)))
                    · show tt Zi d 150 (154, [some (.inr (.inl 30)), some (.inl y), some (.inl x), some (.inl r47), some (.inl r49), some (.inl r51), o_6], [.inr (.inl 30)], n, D, s21, p, c0) _
                      refine tt_k 2 (S' := (159, [some (.inr (.inl 30)), some (.inl y), some (.inl x), some (.inl r47), some (.inl r49), some (.inl r51), o_6], [.inl 1, .inr (.inl 30)], n, D, s21, p, c0)) rfl ?_
                      exact K101 1  (by omega) (Or.inr (Or.inr (Or.inr (⟨h140, h141, h142, h143, h144, rfl⟩))))
          · show tt Zi d 150 (97, [some (.inr (.inl 30)), some (.inl y), some (.inl x), some (.inl r47), some (.inl r49), some (.inl r51), o_6], [], n, D, s21, p, c0) _
            refine tt_k 1 (S' := (99, [some (.inr (.inl 30)), some (.inl y), some (.inl x), some (.inl r47), some (.inl r49), some (.inl r51), o_6], [.inl r51], n, D, s21, p, c0)) rfl ?_
            refine tz_ne (x := r51) rfl rfl (by omega) (fun h145 => ?_) (fun h145 => ?_)
            · show tt Zi d 150 (130, [some (.inr (.inl 30)), some (.inl y), some (.inl x), some (.inl r47), some (.inl r49), some (.inl r51), o_6], [], n, D, s21, p, c0) _
              refine tt_k 2 (S' := (132, [some (.inr (.inl 30)), some (.inl y), some (.inl x), some (.inl r47), some (.inl r49), some (.inl r51), o_6], [.inl r47, .inr (.inl 30)], n, D, s21, p, c0)) rfl ?_
              have K147 : ∀ (j146 : Int) , (0 ≤ j146 ∧ j146 ≤ 1) → ((0 ≤ r47 ∧ r47 = 0 ∧ 0 ≤ r49 ∧ r49 = 0 ∧ 0 ≤ r51 ∧ j146 = 0) ∨ (0 ≤ r47 ∧ r47 = 0 ∧ 0 ≤ r49 ∧ r49 = 0 ∧ r51 < 0 ∧ j146 = 1)) → tt Zi d 150 (159, [some (.inr (.inl 30)), some (.inl y), some (.inl x), some (.inl r47), some (.inl r49), some (.inl r51), o_6], [.inl j146, .inr (.inl 30)], n, D, s21, p, c0) Q := by
                intro j146 b149 hj148
                refine tt_ptb (x := j146) rfl rfl rfl rfl rfl (by omega) ?_
                show tt Zi d 150 (162, [some (.inr (.inl 30)), some (.inl y), some (.inl x), some (.inl r47), some (.inl r49), some (.inl r51), o_6], [], n, D, (us s21 3046 j146), p, c0) _
                refine tt_k 14 (S' := (181, [some (.inr (.inl 30)), some (.inl y), some (.inl x), some (.inl r47), some (.inl r49), some (.inl r51), some (.inl ((((81 * r47) + (9 * r49)) + r51)))], [.inr (.inl 30), .inl y, .inl x, .inr (.inl 30)], n, D, (us s21 3046 j146), p, c0)) rfl ?_
                refine tt_k 1 (S' := (184, [some (.inr (.inl 30)), some (.inl y), some (.inl x), some (.inl r47), some (.inl r49), some (.inl r51), some (.inl ((((81 * r47) + (9 * r49)) + r51)))], [.inl j146, .inl y, .inl x, .inr (.inl 30)], n, D, (us s21 3046 j146), p, c0)) rfl ?_
                have K151 : ∀ (j150 : Int) , (-4 ≤ j150 ∧ j150 ≤ 4) → (0 ≤ j150 ∧ j150 ≤ 364) → (True) → tt Zi d 150 (195, [some (.inr (.inl 30)), some (.inl y), some (.inl x), some (.inl r47), some (.inl r49), some (.inl r51), some (.inl ((((81 * r47) + (9 * r49)) + r51)))], [.inl j150, .inl y, .inl x, .inr (.inl 30)], n, D, (us s21 3046 j146), p, c0) Q := by
                  intro j150 b153 b154 hj152
                  have b155 : 0 ≤ (s21 3047) ∧ (s21 3047) ≤ 255 := hS21 3047
                  have b156 : 0 ≤ (s21 3048) ∧ (s21 3048) ≤ 8 := hS21 3048
                  refine tt_cl (by omega) rfl (k_regT (Zi := Zi) (D := D) (s := (us s21 3046 j146)) (p := p) (c := c0) (by omega) (bS_us hS21 (show 0 ≤ j146 ∧ j146 ≤ 1 by omega)) hC0 (64 * y + x) (bt C B (64 * y + x) - 4096 * psi (s0 3035)) x y j150 (by omega) (by omega) (by omega) (mv_us (by decide) hc24) (show (s21 3036) = 1 ∧ (s21 3050) = 0 ∧ x < (s21 3037) by omega) (show (0 ≤ (s21 3041) ∧ (s21 3041) ≤ (s21 3017)) ∧ (0 ≤ (s21 3042) ∧ (s21 3042) ≤ (s21 3017)) ∧ (0 ≤ (s21 3043) ∧ (s21 3043) ≤ (s21 3017)) by omega) (pl_eq (s := s21) rfl rfl rfl rfl rfl hpl) (show 0 ≤ (64 * y + x) ∧ (64 * y + x) ≤ 4095 by omega) hww hbd hcv1 htb) ?_
                  rintro _ _ ⟨s157, c158, rfl, rfl, hS157, hC158, f159, g160, k161, k162, k163, k164, k165⟩
                  have hc166 : mv s157 := mv_fr f159 (by decide) (mv_us (by decide) hc24)
                  show tt Zi d 150 (198, [some (.inr (.inl 30)), some (.inl y), some (.inl x), some (.inl r47), some (.inl r49), some (.inl r51), some (.inl ((((81 * r47) + (9 * r49)) + r51)))], [], n, D, s157, p, c158) _
                  replace k161 : w_ok ((s157 3047)) ((s157 3048)) := k161
                  replace k163 : pl s157 ((64 * y + x) + 1) c158 := k163
                  replace k164 : tb ((s157 3037)) ((s157 3039)) ((s157 3017)) ((c158 44)) (x + 1) y := k164
                  replace k165 : (s21 3016) ≤ (s157 3016) := k165
                  have b167 : 0 ≤ (s157 3047) ∧ (s157 3047) ≤ 255 := hS157 3047
                  have b168 : 0 ≤ (s157 3048) ∧ (s157 3048) ≤ 8 := hS157 3048
                  have b169 : 0 ≤ (s157 3016) ∧ (s157 3016) ≤ 65536 := hS157 3016
                  have b170 : 0 ≤ (s157 3037) ∧ (s157 3037) ≤ 64 := hS157 3037
                  have b171 : 0 ≤ (s157 3039) ∧ (s157 3039) ≤ 8192 := hS157 3039
                  have b172 : 0 ≤ (s157 3017) ∧ (s157 3017) ≤ 65535 := hS157 3017
                  have e173 : s157 3050 = (s21 3050) := (f159 3050 (by decide))
                  have b174 : 0 ≤ (s157 3050) ∧ (s157 3050) ≤ 8 := hS157 3050
                  have e175 : s157 3036 = (s21 3036) := (f159 3036 (by decide))
                  have b176 : 0 ≤ (s157 3036) ∧ (s157 3036) ≤ 1 := hS157 3036
                  have e177 : s157 3037 = (s21 3037) := (f159 3037 (by decide))
                  have e178 : s157 3038 = (s21 3038) := (f159 3038 (by decide))
                  have b179 : 0 ≤ (s157 3038) ∧ (s157 3038) ≤ 64 := hS157 3038
                  have e180 : s157 3017 = (s21 3017) := (f159 3017 (by decide))
                  have e181 : s157 3039 = (s21 3039) := (f159 3039 (by decide))
                  have e182 : s157 3035 = (s21 3035) := (f159 3035 (by decide))
                  have b183 : 0 ≤ (s157 3035) ∧ (s157 3035) ≤ 31 := hS157 3035
                  have e184 : psi (s157 3035) = psi (s0 3035) := congrArg psi (by omega)
                  refine tt_k 2 (S' := (23, [some (.inr (.inl 30)), some (.inl y), some (.inl (x + 1)), some (.inl r47), some (.inl r49), some (.inl r51), some (.inl ((((81 * r47) + (9 * r49)) + r51)))], [], n, D, s157, p, c158)) rfl ?_
                  have hxe : 64 * y + (x + 1) = 64 * y + x + 1 := by omega
                  exact ih (x + 1) (some (.inl r47)) (some (.inl r49)) (some (.inl r51)) (some (.inl ((((81 * r47) + (9 * r49)) + r51)))) s157 c158 (by omega) hS157 (fr_tr (fr_us (by decide) (fr_tr hF0 f22 (by decide))) f159 (by decide)) hC158 (frc_tr hG0 g160 (by decide)) k161 (by rw [hxe, hbs]; have hx1 := k162; have hx2 : cb (us s21 3046 j146) = C := acb; rw [hx2] at hx1; omega) (by rw [hxe]; exact k163) k164 (show s 3016 ≤ (s157 3016) by omega) (show 0 ≤ (s157 3035) ∧ (s157 3035) ≤ 22 by omega) (show (x + 1) ≤ s 3037 by omega) (show (s 3037 - (x + 1)).toNat < m by omega)
                refine tz_eq (x := j146) rfl rfl (by omega) (fun h185 => ?_) (fun h185 => ?_)
                · show tt Zi d 150 (193, [some (.inr (.inl 30)), some (.inl y), some (.inl x), some (.inl r47), some (.inl r49), some (.inl r51), some (.inl ((((81 * r47) + (9 * r49)) + r51)))], [.inl y, .inl x, .inr (.inl 30)], n, D, (us s21 3046 j146), p, c0) _
                  refine tt_k 1 (S' := (195, [some (.inr (.inl 30)), some (.inl y), some (.inl x), some (.inl r47), some (.inl r49), some (.inl r51), some (.inl ((((81 * r47) + (9 * r49)) + r51)))], [.inl ((((81 * r47) + (9 * r49)) + r51)), .inl y, .inl x, .inr (.inl 30)], n, D, (us s21 3046 j146), p, c0)) rfl ?_
                  exact K151 ((((81 * r47) + (9 * r49)) + r51))  (by omega) (by omega) (trivial)
                · show tt Zi d 150 (187, [some (.inr (.inl 30)), some (.inl y), some (.inl x), some (.inl r47), some (.inl r49), some (.inl r51), some (.inl ((((81 * r47) + (9 * r49)) + r51)))], [.inl y, .inl x, .inr (.inl 30)], n, D, (us s21 3046 j146), p, c0) _
                  refine tt_k 3 (S' := (195, [some (.inr (.inl 30)), some (.inl y), some (.inl x), some (.inl r47), some (.inl r49), some (.inl r51), some (.inl ((((81 * r47) + (9 * r49)) + r51)))], [.inl ((-(((81 * r47) + (9 * r49)) + r51))), .inl y, .inl x, .inr (.inl 30)], n, D, (us s21 3046 j146), p, c0)) rfl ?_
                  exact K151 ((-(((81 * r47) + (9 * r49)) + r51)))  (by omega) (by omega) (trivial)
              refine tz_lt (x := r47) rfl rfl (by omega) (fun h186 => ?_) (fun h186 => ?_)
              · exfalso; omega
              · show tt Zi d 150 (135, [some (.inr (.inl 30)), some (.inl y), some (.inl x), some (.inl r47), some (.inl r49), some (.inl r51), o_6], [.inr (.inl 30)], n, D, s21, p, c0) _
                refine tt_k 1 (S' := (136, [some (.inr (.inl 30)), some (.inl y), some (.inl x), some (.inl r47), some (.inl r49), some (.inl r51), o_6], [.inl r47, .inr (.inl 30)], n, D, s21, p, c0)) rfl ?_
                refine tz_ne (x := r47) rfl rfl (by omega) (fun h187 => ?_) (fun h187 => ?_)
                · exfalso; omega
                · show tt Zi d 150 (139, [some (.inr (.inl 30)), some (.inl y), some (.inl x), some (.inl r47), some (.inl r49), some (.inl r51), o_6], [.inr (.inl 30)], n, D, s21, p, c0) _
                  refine tt_k 1 (S' := (141, [some (.inr (.inl 30)), some (.inl y), some (.inl x), some (.inl r47), some (.inl r49), some (.inl r51), o_6], [.inl r49, .inr (.inl 30)], n, D, s21, p, c0)) rfl ?_
                  refine tz_lt (x := r49) rfl rfl (by omega) (fun h188 => ?_) (fun h188 => ?_)
                  · exfalso; omega
                  · show tt Zi d 150 (144, [some (.inr (.inl 30)), some (.inl y), some (.inl x), some (.inl r47), some (.inl r49), some (.inl r51), o_6], [.inr (.inl 30)], n, D, s21, p, c0) _
                    refine tt_k 1 (S' := (146, [some (.inr (.inl 30)), some (.inl y), some (.inl x), some (.inl r47), some (.inl r49), some (.inl r51), o_6], [.inl r49, .inr (.inl 30)], n, D, s21, p, c0)) rfl ?_
                    refine tz_ne (x := r49) rfl rfl (by omega) (fun h189 => ?_) (fun h189 => ?_)
                    · exfalso; omega
                    · show tt Zi d 150 (149, [some (.inr (.inl 30)), some (.inl y), some (.inl x), some (.inl r47), some (.inl r49), some (.inl r51), o_6], [.inr (.inl 30)], n, D, s21, p, c0) _
                      refine tt_k 1 (S' := (151, [some (.inr (.inl 30)), some (.inl y), some (.inl x), some (.inl r47), some (.inl r49), some (.inl r51), o_6], [.inl r51, .inr (.inl 30)], n, D, s21, p, c0)) rfl ?_
                      refine tz_ge (x := r51) rfl rfl (by omega) (fun h190 => ?_) (fun h190 => ?_)
                      · show tt Zi d 150 (158, [some (.inr (.inl 30)), some (.inl y), some (.inl x), some (.inl r47), some (.inl r49), some (.inl r51), o_6], [.inr (.inl 30)], n, D, s21, p, c0) _
                        refine tt_k 1 (S' := (159, [some (.inr (.inl 30)), some (.inl y), some (.inl x), some (.inl r47), some (.inl r49), some (.inl r51), o_6], [.inl 0, .inr (.inl 30)], n, D, s21, p, c0)) rfl ?_
                        exact K147 0  (by omega) (Or.inl ⟨h186, h187, h188, h189, h190, rfl⟩)
                      · show tt Zi d 150 (154, [some (.inr (.inl 30)), some (.inl y), some (.inl x), some (.inl r47), some (.inl r49), some (.inl r51), o_6], [.inr (.inl 30)], n, D, s21, p, c0) _
                        refine tt_k 2 (S' := (159, [some (.inr (.inl 30)), some (.inl y), some (.inl x), some (.inl r47), some (.inl r49), some (.inl r51), o_6], [.inl 1, .inr (.inl 30)], n, D, s21, p, c0)) rfl ?_
                        exact K147 1  (by omega) (Or.inr (⟨h186, h187, h188, h189, h190, rfl⟩))
            · show tt Zi d 150 (102, [some (.inr (.inl 30)), some (.inl y), some (.inl x), some (.inl r47), some (.inl r49), some (.inl r51), o_6], [], n, D, s21, p, c0) _
              refine tt_k 3 (S' := (107, [some (.inr (.inl 30)), some (.inl y), some (.inl x), some (.inl r47), some (.inl r49), some (.inl r51), o_6], [.inl (s21 3036), .inl x], n, D, s21, p, c0)) rfl ?_
              refine tz_eq (x := (s21 3036)) rfl rfl (by omega) (fun h191 => ?_) (fun h191 => ?_)
              · exfalso; omega
              · show tt Zi d 150 (110, [some (.inr (.inl 30)), some (.inl y), some (.inl x), some (.inl r47), some (.inl r49), some (.inl r51), o_6], [.inl x], n, D, s21, p, c0) _
                refine tt_k 3 (S' := (113, [some (.inr (.inl 30)), some (.inl y), some (.inl x), some (.inl r47), some (.inl r49), some (.inl r51), o_6], [.inl y, .inl x, .inr (.inl 30), .inl x], n, D, s21, p, c0)) rfl ?_
                have b192 : 0 ≤ (s21 3047) ∧ (s21 3047) ≤ 255 := hS21 3047
                have b193 : 0 ≤ (s21 3048) ∧ (s21 3048) ≤ 8 := hS21 3048
                refine tt_cl (by omega) rfl (k_tellT (Zi := Zi) (D := D) (s := s21) (p := p) (c := c0) (by omega) hS21 hC0 (64 * y + x) B x y (by omega) (by omega) hc24 (show (s21 3036) = 1 ∧ (s21 3050) = 0 ∧ x < (s21 3037) ∧ y < (s21 3038) by omega) (show (s21 3041) ≤ (s21 3017) by omega) hpl (show 0 ≤ (64 * y + x) ∧ (64 * y + x) + (s21 3037) - x ≤ 4096 by omega) hww hbt2 hbt3 hcv2 htb (show 0 ≤ (s21 3035) ∧ (s21 3035) ≤ 22 by omega)) ?_
                rintro _ _ ⟨s194, c195, r196, rfl, rfl, hS194, hC195, f197, g198, b199, k200, k201, k202, k203, k204, k205, k206⟩
                have hc207 : mv s194 := mv_fr f197 (by decide) hc24
                show tt Zi d 150 (116, [some (.inr (.inl 30)), some (.inl y), some (.inl x), some (.inl r47), some (.inl r49), some (.inl r51), o_6], [.inl r196, .inl x], n, D, s194, p, c195) _
                replace k200 : w_ok ((s194 3047)) ((s194 3048)) := k200
                replace k202 : pl s194 ((64 * y + x) + r196) c195 := k202
                replace k203 : tb ((s194 3037)) ((s194 3039)) ((s194 3017)) ((c195 44)) (x + r196) y := k203
                replace k204 : (s21 3016) ≤ (s194 3016) := k204
                replace k205 : 0 ≤ (s194 3035) ∧ (s194 3035) ≤ 22 := k205
                replace k206 : x + r196 ≤ (s21 3037) := k206
                have b208 : 0 ≤ (s194 3047) ∧ (s194 3047) ≤ 255 := hS194 3047
                have b209 : 0 ≤ (s194 3048) ∧ (s194 3048) ≤ 8 := hS194 3048
                have b210 : 0 ≤ (s194 3016) ∧ (s194 3016) ≤ 65536 := hS194 3016
                have b211 : 0 ≤ (s194 3035) ∧ (s194 3035) ≤ 31 := hS194 3035
                have b212 : 0 ≤ (s194 3037) ∧ (s194 3037) ≤ 64 := hS194 3037
                have b213 : 0 ≤ (s194 3039) ∧ (s194 3039) ≤ 8192 := hS194 3039
                have b214 : 0 ≤ (s194 3017) ∧ (s194 3017) ≤ 65535 := hS194 3017
                have e215 : s194 3050 = (s21 3050) := (f197 3050 (by decide))
                have b216 : 0 ≤ (s194 3050) ∧ (s194 3050) ≤ 8 := hS194 3050
                have e217 : s194 3036 = (s21 3036) := (f197 3036 (by decide))
                have b218 : 0 ≤ (s194 3036) ∧ (s194 3036) ≤ 1 := hS194 3036
                have e219 : s194 3037 = (s21 3037) := (f197 3037 (by decide))
                have e220 : s194 3038 = (s21 3038) := (f197 3038 (by decide))
                have b221 : 0 ≤ (s194 3038) ∧ (s194 3038) ≤ 64 := hS194 3038
                have e222 : s194 3017 = (s21 3017) := (f197 3017 (by decide))
                have e223 : s194 3039 = (s21 3039) := (f197 3039 (by decide))
                refine tt_k 5 (S' := (23, [some (.inr (.inl 30)), some (.inl y), some (.inl (x + r196)), some (.inl r47), some (.inl r49), some (.inl r51), o_6], [], n, D, s194, p, c195)) rfl ?_
                have hxe : 64 * y + (x + r196) = 64 * y + x + r196 := by omega
                exact ih (x + r196) (some (.inl r47)) (some (.inl r49)) (some (.inl r51)) (o_6) s194 c195 (by omega) hS194 (fr_tr (fr_tr hF0 f22 (by decide)) f197 (by decide)) hC195 (frc_tr hG0 g198 (by decide)) k200 (by rw [hxe, ← acb]; exact k201) (by rw [hxe]; exact k202) k203 (show s 3016 ≤ (s194 3016) by omega) k205 (show (x + r196) ≤ s 3037 by omega) (show (s 3037 - (x + r196)).toNat < m by omega)

set_option maxRecDepth 100000 in
set_option maxHeartbeats 4000000 in
theorem k_planeT_L6 {Zi : Nat → Option (Nat × (Nat → Int))} {d n : Nat} {D : Nat → Nat × Nat} {s : Nat → Int} {p : Nat → Nat} {c : Nat → Nat → Int}  {Q : mi_Rs → mi_H → Prop} (hd : 6 ≤ d) (hS : bS s) (hC : bC D c) (B : Int) (C : Int) (hc_mv : mv s) (hq0 : bt C B 4096 ≤ 17179869184 ∧ C = cb s) (hq1 : ∀ xx yy : Int, 0 ≤ xx → xx < s 3037 → 0 ≤ yy → yy < s 3038 → c 31 (s 3039 + 64 * yy + xx).toNat ≤ s 3017) (hq2 : s 3036 = 1 ∧ s 3050 = 0)
  (hK : ∀ (y : Int) (o_2 : Option mi_V) (o_3 : Option mi_V) (o_4 : Option mi_V) (o_5 : Option mi_V) (o_6 : Option mi_V) (s0 : Nat → Int) (c0 : Nat → Nat → Int) (b_y : 0 ≤ y ∧ y ≤ 64) (hS0 : bS s0) (hF0 : fr s s0 [3016, 3035, 3041, 3042, 3043, 3044, 3045, 3046, 3047, 3048]) (hC0 : bC D c0) (hG0 : frc c c0 [35, 36, 37, 38, 39, 44]) (i0 : w_ok (s0 3047) (s0 3048)) (i1 : 4096 * (w_u (s0 3016) (s0 3047) (s0 3048) + psi (s0 3035)) + pot s0 c0 ≤ bt C B (64 * y)) (i2 : pl s0 (64 * y) c0) (i3 : tb (s0 3037) (s0 3039) (s0 3017) (c0 44) 0 y) (i4 : s 3016 ≤ s0 3016) (i5 : 0 ≤ s0 3035 ∧ s0 3035 ≤ 22), True → tt Zi d 150 (210, [some (.inr (.inl 30)), some (.inl y), o_2, o_3, o_4, o_5, o_6], [], n, D, s0, p, c0) Q) :
  ∀ (m : Nat) (y : Int) (o_2 : Option mi_V) (o_3 : Option mi_V) (o_4 : Option mi_V) (o_5 : Option mi_V) (o_6 : Option mi_V) (s0 : Nat → Int) (c0 : Nat → Nat → Int) (b_y : 0 ≤ y ∧ y ≤ 64) (hS0 : bS s0) (hF0 : fr s s0 [3016, 3035, 3041, 3042, 3043, 3044, 3045, 3046, 3047, 3048]) (hC0 : bC D c0) (hG0 : frc c c0 [35, 36, 37, 38, 39, 44]) (i0 : w_ok (s0 3047) (s0 3048)) (i1 : 4096 * (w_u (s0 3016) (s0 3047) (s0 3048) + psi (s0 3035)) + pot s0 c0 ≤ bt C B (64 * y)) (i2 : pl s0 (64 * y) c0) (i3 : tb (s0 3037) (s0 3039) (s0 3017) (c0 44) 0 y) (i4 : s 3016 ≤ s0 3016) (i5 : 0 ≤ s0 3035 ∧ s0 3035 ≤ 22), (s 3038 - y).toNat < m → tt Zi d 150 (6, [some (.inr (.inl 30)), some (.inl y), o_2, o_3, o_4, o_5, o_6], [], n, D, s0, p, c0) Q := by
  intro m
  induction m with
  | zero => intro y o_2 o_3 o_4 o_5 o_6 s0 c0 b_y hS0 hF0 hC0 hG0 i0 i1 i2 i3 i4 i5 hm; exact absurd hm (by omega)
  | succ m ih =>
    intro y o_2 o_3 o_4 o_5 o_6 s0 c0 b_y hS0 hF0 hC0 hG0 i0 i1 i2 i3 i4 i5 hm
    have e1 : s0 3050 = s 3050 := hF0 3050 (by decide)
    have b2 : 0 ≤ (s0 3050) ∧ (s0 3050) ≤ 8 := hS0 3050
    have b3 : 0 ≤ (s 3050) ∧ (s 3050) ≤ 8 := hS 3050
    have e4 : s0 3036 = s 3036 := hF0 3036 (by decide)
    have b5 : 0 ≤ (s0 3036) ∧ (s0 3036) ≤ 1 := hS0 3036
    have b6 : 0 ≤ (s 3036) ∧ (s 3036) ≤ 1 := hS 3036
    have e7 : s0 3037 = s 3037 := hF0 3037 (by decide)
    have b8 : 0 ≤ (s0 3037) ∧ (s0 3037) ≤ 64 := hS0 3037
    have b9 : 0 ≤ (s 3037) ∧ (s 3037) ≤ 64 := hS 3037
    have e10 : s0 3038 = s 3038 := hF0 3038 (by decide)
    have b11 : 0 ≤ (s0 3038) ∧ (s0 3038) ≤ 64 := hS0 3038
    have b12 : 0 ≤ (s 3038) ∧ (s 3038) ≤ 64 := hS 3038
    have e13 : s0 3017 = s 3017 := hF0 3017 (by decide)
    have b14 : 0 ≤ (s0 3017) ∧ (s0 3017) ≤ 65535 := hS0 3017
    have b15 : 0 ≤ (s 3017) ∧ (s 3017) ≤ 65535 := hS 3017
    have e16 : s0 3039 = s 3039 := hF0 3039 (by decide)
    have b17 : 0 ≤ (s0 3039) ∧ (s0 3039) ≤ 8192 := hS0 3039
    have b18 : 0 ≤ (s 3039) ∧ (s 3039) ≤ 8192 := hS 3039
    have hc0_mv : mv s0 := mv_fr hF0 (by decide) hc_mv
    have hcb := cb_bd (s := s)
    have e31 : c0 31 = c 31 := hG0 31 (by decide)
    refine tt_k 3 (S' := (11, [some (.inr (.inl 30)), some (.inl y), o_2, o_3, o_4, o_5, o_6], [.inl (s0 3038), .inl y], n, D, s0, p, c0)) rfl ?_
    refine tb_ge (x := y) (y := (s0 3038)) rfl rfl (by omega) (fun h19 => ?_) (fun h19 => ?_)
    · show tt Zi d 150 (210, [some (.inr (.inl 30)), some (.inl y), o_2, o_3, o_4, o_5, o_6], [], n, D, s0, p, c0) _
      exact hK y (o_2) (o_3) (o_4) (o_5) (o_6) s0 c0 (by omega) hS0 hF0 hC0 hG0 i0 i1 i2 i3 i4 i5 trivial
    · show tt Zi d 150 (14, [some (.inr (.inl 30)), some (.inl y), o_2, o_3, o_4, o_5, o_6], [], n, D, s0, p, c0) _
      refine tt_k 2 (S' := (18, [some (.inr (.inl 30)), some (.inl y), o_2, o_3, o_4, o_5, o_6], [.inl (s0 3050)], n, D, s0, p, c0)) rfl ?_
      refine tz_ne (x := (s0 3050)) rfl rfl (by omega) (fun h20 => ?_) (fun h20 => ?_)
      · exfalso; omega
      · show tt Zi d 150 (21, [some (.inr (.inl 30)), some (.inl y), o_2, o_3, o_4, o_5, o_6], [], n, D, s0, p, c0) _
        refine tt_k 2 (S' := (23, [some (.inr (.inl 30)), some (.inl y), some (.inl 0), o_3, o_4, o_5, o_6], [], n, D, s0, p, c0)) rfl ?_
        have aW : s0 3037 = s 3037 := hF0 3037 (by decide)
        have aB : s0 3039 = s 3039 := hF0 3039 (by decide)
        have aM : s0 3017 = s 3017 := hF0 3017 (by decide)
        have ah : s0 3038 = s 3038 := hF0 3038 (by decide)
        have aL : s0 3026 = s 3026 := hF0 3026 (by decide)
        have aT : s0 3036 = s 3036 := hF0 3036 (by decide)
        have aF : s0 3050 = s 3050 := hF0 3050 (by decide)
        have acb : cb s0 = cb s := by unfold cb; rw [aL]
        refine k_planeT_L23 (Zi := Zi) (D := D) (s := s0) (p := p) (c := c0) hd hS0 hC0 B C y (by omega) hc0_mv (by rw [acb]; exact hq0) (by rw [aW, aB, aM, ah, e31]; exact hq1) (by rw [aT, aF]; exact hq2) (show y < (s0 3038) by omega) ?_ _ 0 (o_3) (o_4) (o_5) (o_6) s0 c0 (by omega) hS0 fr_rf hC0 frc_rf i0 (by rw [show 64 * y + 0 = 64 * y by omega]; exact i1) (by rw [show 64 * y + 0 = 64 * y by omega]; exact i2) i3 (Int.le_refl _) i5 (show 0 ≤ (s0 3037) by omega) (Nat.lt_succ_self _)
        intro x21 x22 x23 x24 x25 s26 c27 b28 hS26 f29 hC27 g30 i31 i32 i33 i34 i35 i36 i37 hx38
        show tt Zi d 150 (204, [some (.inr (.inl 30)), some (.inl y), some (.inl x21), x22, x23, x24, x25], [], n, D, s26, p, c27) _
        have hc39 : mv s26 := mv_fr f29 (by decide) hc0_mv
        have e40 : s26 3050 = (s0 3050) := (f29 3050 (by decide))
        have b41 : 0 ≤ (s26 3050) ∧ (s26 3050) ≤ 8 := hS26 3050
        have e42 : s26 3036 = (s0 3036) := (f29 3036 (by decide))
        have b43 : 0 ≤ (s26 3036) ∧ (s26 3036) ≤ 1 := hS26 3036
        have e44 : s26 3037 = (s0 3037) := (f29 3037 (by decide))
        have b45 : 0 ≤ (s26 3037) ∧ (s26 3037) ≤ 64 := hS26 3037
        have e46 : s26 3038 = (s0 3038) := (f29 3038 (by decide))
        have b47 : 0 ≤ (s26 3038) ∧ (s26 3038) ≤ 64 := hS26 3038
        have e48 : s26 3017 = (s0 3017) := (f29 3017 (by decide))
        have b49 : 0 ≤ (s26 3017) ∧ (s26 3017) ≤ 65535 := hS26 3017
        have e50 : s26 3039 = (s0 3039) := (f29 3039 (by decide))
        have b51 : 0 ≤ (s26 3039) ∧ (s26 3039) ≤ 8192 := hS26 3039
        refine tt_k 2 (S' := (6, [some (.inr (.inl 30)), some (.inl (y + 1)), some (.inl x21), x22, x23, x24, x25], [], n, D, s26, p, c27)) rfl ?_
        have hbm := bt_mono (C := C) (B := B) (u := 64 * y + x21) (v := 64 * (y + 1)) (by omega) (by omega)
        exact ih (y + 1) (some (.inl x21)) (x22) (x23) (x24) (x25) s26 c27 (by omega) hS26 (fr_tr hF0 f29 (by decide)) hC27 (frc_tr hG0 g30 (by decide)) i31 (by have hz0 := i32; omega) (pl_mono i33 (by omega)) (tb_row i34 (by omega)) (show s 3016 ≤ (s26 3016) by omega) i36 (show (s 3038 - (y + 1)).toNat < m by omega)
set_option maxRecDepth 100000 in
set_option maxHeartbeats 4000000 in
theorem k_planeT {Zi : Nat → Option (Nat × (Nat → Int))} {d n : Nat} {D : Nat → Nat × Nat} {s : Nat → Int} {p : Nat → Nat} {c : Nat → Nat → Int} (hd : 6 ≤ d) (hS : bS s) (hC : bC D c) (hp0 : mv s) (hp1 : s 3036 = 1 ∧ s 3050 = 0) (hp2 : ∀ xx yy : Int, 0 ≤ xx → xx < s 3037 → 0 ≤ yy → yy < s 3038 → c 31 (s 3039 + 64 * yy + xx).toNat ≤ s 3017) (hp3 : w_ok (s 3047) (s 3048)) (hp4 : 4096 * w_u (s 3016) (s 3047) (s 3048) + 5676785664 ≤ 17179869184) : tt Zi d 150 (0, [some (.inr (.inl 30)), none, none, none, none, none, none], [], n, D, s, p, c) (fun R H => ∃ (s' : Nat → Int) (c' : Nat → Nat → Int), R = .inl none ∧ H = (n, D, s', p, c') ∧ bS s' ∧ bC D c' ∧ fr s s' [3016, 3035, 3041, 3042, 3043, 3044, 3045, 3046, 3047, 3048] ∧ frc c c' [35, 36, 37, 38, 39, 40, 41, 42, 43, 44] ∧ (w_ok (s' 3047) (s' 3048)) ∧ (4096 * w_u (s' 3016) (s' 3047) (s' 3048) ≤ 4096 * w_u (s 3016) (s 3047) (s 3048) + 5676785664) ∧ (s 3016 ≤ s' 3016)) := by
  have mvx := mv_fx hp0
  refine tt_k 1 (S' := (1, [some (.inr (.inl 30)), none, none, none, none, none, none], [.inr (.inl 30)], n, D, s, p, c)) rfl ?_
  have b1 : -2147483648 ≤ (s 3024) ∧ (s 3024) ≤ 2147483647 := hS 3024
  refine tt_cl (by omega) rfl (k_beginPlane (Zi := Zi) (D := D) (s := s) (p := p) (c := c) (by omega) hS hC (show 1 ≤ (s 3024) ∧ (s 3024) ≤ 65536 by omega)) ?_
  rintro _ _ ⟨s2, c3, rfl, rfl, hS2, hC3, f4, g5, k6, k7, k8, k9, k10⟩
  have hc11 : mv s2 := mv_fr f4 (by decide) hp0
  show tt Zi d 150 (4, [some (.inr (.inl 30)), none, none, none, none, none, none], [], n, D, s2, p, c3) _
  replace k6 : ∀ i : Nat, (i : Int) < 367 → (c3 36) i = max 2 (((s 3024) + 32) / 64) := k6
  replace k7 : ∀ i : Nat, (i : Int) < 367 → (c3 37) i = 0 := k7
  replace k8 : ∀ i : Nat, (i : Int) < 367 → (c3 38) i = 0 := k8
  replace k9 : ∀ i : Nat, (i : Int) < 367 → (c3 39) i = 1 := k9
  replace k10 : (s2 3035) = 0 := k10
  have b12 : 0 ≤ (s2 3035) ∧ (s2 3035) ≤ 31 := hS2 3035
  have e13 : s2 3050 = (s 3050) := (f4 3050 (by decide))
  have b14 : 0 ≤ (s2 3050) ∧ (s2 3050) ≤ 8 := hS2 3050
  have b15 : 0 ≤ (s 3050) ∧ (s 3050) ≤ 8 := hS 3050
  have e16 : s2 3036 = (s 3036) := (f4 3036 (by decide))
  have b17 : 0 ≤ (s2 3036) ∧ (s2 3036) ≤ 1 := hS2 3036
  have b18 : 0 ≤ (s 3036) ∧ (s 3036) ≤ 1 := hS 3036
  have e19 : s2 3037 = (s 3037) := (f4 3037 (by decide))
  have b20 : 0 ≤ (s2 3037) ∧ (s2 3037) ≤ 64 := hS2 3037
  have b21 : 0 ≤ (s 3037) ∧ (s 3037) ≤ 64 := hS 3037
  have e22 : s2 3038 = (s 3038) := (f4 3038 (by decide))
  have b23 : 0 ≤ (s2 3038) ∧ (s2 3038) ≤ 64 := hS2 3038
  have b24 : 0 ≤ (s 3038) ∧ (s 3038) ≤ 64 := hS 3038
  have e25 : s2 3017 = (s 3017) := (f4 3017 (by decide))
  have b26 : 0 ≤ (s2 3017) ∧ (s2 3017) ≤ 65535 := hS2 3017
  have b27 : 0 ≤ (s 3017) ∧ (s 3017) ≤ 65535 := hS 3017
  have e28 : s2 3039 = (s 3039) := (f4 3039 (by decide))
  have b29 : 0 ≤ (s2 3039) ∧ (s2 3039) ≤ 8192 := hS2 3039
  have b30 : 0 ≤ (s 3039) ∧ (s 3039) ≤ 8192 := hS 3039
  have e31 : s2 3016 = (s 3016) := (f4 3016 (by decide))
  have b32 : 0 ≤ (s2 3016) ∧ (s2 3016) ≤ 65536 := hS2 3016
  have b33 : 0 ≤ (s 3016) ∧ (s 3016) ≤ 65536 := hS 3016
  have hpb := pl_begin (s := s) (c := c3) hp0 k6 k7 k8 k9
  have hcv0 : c3 31 = c 31 := g5 31 (by decide)
  have aS : s2 3016 = s 3016 := f4 3016 (by decide)
  have aH : s2 3047 = s 3047 := f4 3047 (by decide)
  have aR : s2 3048 = s 3048 := f4 3048 (by decide)
  have aL : s2 3026 = s 3026 := f4 3026 (by decide)
  have aQ : s2 3025 = s 3025 := f4 3025 (by decide)
  have aW : s2 3037 = s 3037 := f4 3037 (by decide)
  have aB : s2 3039 = s 3039 := f4 3039 (by decide)
  have aM : s2 3017 = s 3017 := f4 3017 (by decide)
  have ah : s2 3038 = s 3038 := f4 3038 (by decide)
  have apot : pot s2 c3 = pot s c3 := pot_eq aQ aL rfl rfl
  have acb : cb s2 = cb s := by unfold cb; rw [aL]
  have aps : psi (s2 3035) = 0 := by rw [k10]; rfl
  have hwu : w_u (s2 3016) (s2 3047) (s2 3048) = w_u (s 3016) (s 3047) (s 3048) := by rw [aS, aH, aR]
  have hww : w_ok (s2 3047) (s2 3048) := by rw [aH, aR]; exact hp3
  have hbt : bt (cb s) (4096 * w_u (s 3016) (s 3047) (s 3048) + pot s c3) 4096 = 4096 * w_u (s 3016) (s 3047) (s 3048) + pot s c3 + 4096 * cb s := rfl
  have hbt0 : bt (cb s) (4096 * w_u (s 3016) (s 3047) (s 3048) + pot s c3) (64 * 0) = 4096 * w_u (s 3016) (s 3047) (s 3048) + pot s c3 := by unfold bt; omega
  have hcb := cb_bd (s := s)
  have hp0t := pot_0 (s := s) (c := c3)
  have hcv : ∀ xx yy : Int, 0 ≤ xx → xx < s2 3037 → 0 ≤ yy → yy < s2 3038 → c3 31 (s2 3039 + 64 * yy + xx).toNat ≤ s2 3017 := by rw [aW, aB, aM, ah, hcv0]; exact hp2
  clear k6 k7 k8 k9
  refine tt_k 2 (S' := (6, [some (.inr (.inl 30)), some (.inl 0), none, none, none, none, none], [], n, D, s2, p, c3)) rfl ?_
  refine k_planeT_L6 (Zi := Zi) (D := D) (s := s2) (p := p) (c := c3) hd hS2 hC3 (4096 * w_u (s 3016) (s 3047) (s 3048) + pot s c3) (cb s)  hc11 (by rw [acb]; exact ⟨by omega, rfl⟩) hcv (show (s2 3036) = 1 ∧ (s2 3050) = 0 by omega) ?_ _ 0 (none) (none) (none) (none) (none) s2 c3 (by omega) hS2 fr_rf hC3 frc_rf hww (by rw [apot, aps, hwu, hbt0]; omega) (pl_mono (pl_eq aQ rfl rfl rfl rfl hpb.1) (by omega)) tb_0 (Int.le_refl _) (show 0 ≤ (s2 3035) ∧ (s2 3035) ≤ 22 by omega) (Nat.lt_succ_self _)
  intro x34 x35 x36 x37 x38 x39 s40 c41 b42 hS40 f43 hC41 g44 i45 i46 i47 i48 i49 i50 hx51
  show tt Zi d 150 (210, [some (.inr (.inl 30)), some (.inl x34), x35, x36, x37, x38, x39], [], n, D, s40, p, c41) _
  have hc52 : mv s40 := mv_fr f43 (by decide) hc11
  have e53 : s40 3050 = (s2 3050) := (f43 3050 (by decide))
  have b54 : 0 ≤ (s40 3050) ∧ (s40 3050) ≤ 8 := hS40 3050
  have e55 : s40 3036 = (s2 3036) := (f43 3036 (by decide))
  have b56 : 0 ≤ (s40 3036) ∧ (s40 3036) ≤ 1 := hS40 3036
  have e57 : s40 3037 = (s2 3037) := (f43 3037 (by decide))
  have b58 : 0 ≤ (s40 3037) ∧ (s40 3037) ≤ 64 := hS40 3037
  have e59 : s40 3038 = (s2 3038) := (f43 3038 (by decide))
  have b60 : 0 ≤ (s40 3038) ∧ (s40 3038) ≤ 64 := hS40 3038
  have e61 : s40 3017 = (s2 3017) := (f43 3017 (by decide))
  have b62 : 0 ≤ (s40 3017) ∧ (s40 3017) ≤ 65535 := hS40 3017
  have e63 : s40 3039 = (s2 3039) := (f43 3039 (by decide))
  have b64 : 0 ≤ (s40 3039) ∧ (s40 3039) ≤ 8192 := hS40 3039
  refine tt_k 2 (S' := (214, [some (.inr (.inl 30)), some (.inl x34), x35, x36, x37, x38, x39], [.inl (s40 3050)], n, D, s40, p, c41)) rfl ?_
  refine tz_ne (x := (s40 3050)) rfl rfl (by omega) (fun h65 => ?_) (fun h65 => ?_)
  · exfalso; omega
  · show tt Zi d 150 (217, [some (.inr (.inl 30)), some (.inl x34), x35, x36, x37, x38, x39], [], n, D, s40, p, c41) _
    refine tt_k 1 (S' := (218, [some (.inr (.inl 30)), some (.inl x34), x35, x36, x37, x38, x39], [.inr (.inl 30)], n, D, s40, p, c41)) rfl ?_
    refine tt_cl (by omega) rfl (k_keep (Zi := Zi) (D := D) (s := s40) (p := p) (c := c41) (by omega) hS40 hC41 ) ?_
    rintro _ _ ⟨c66, rfl, rfl, hC66, g67⟩
    show tt Zi d 150 (221, [some (.inr (.inl 30)), some (.inl x34), x35, x36, x37, x38, x39], [], n, D, s40, p, c66) _
    have hps := psi_0 (p := s40 3035)
    have hpt := pot_0 (s := s40) (c := c41)
    have hbm := bt_mono (C := cb s) (B := (4096 * w_u (s 3016) (s 3047) (s 3048) + pot s c3)) (u := 64 * x34) (v := 4096) (by omega) (by omega)
    exact tt_rtv rfl rfl ⟨s40, c66, rfl, rfl, hS40, hC66, (fr_tr (fr_tr fr_rf f4 (by decide)) f43 (by decide)), (frc_tr (frc_tr (frc_tr frc_rf g5 (by decide)) g44 (by decide)) g67 (by decide)), i45, by show 4096 * w_u ((s40 3016)) ((s40 3047)) ((s40 3048)) ≤ 4096 * w_u (s 3016) (s 3047) (s 3048) + 5676785664; omega, by show s 3016 ≤ (s40 3016); omega⟩
