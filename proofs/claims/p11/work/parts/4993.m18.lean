/-! the reference reads a plane -/
set_option maxRecDepth 100000 in
set_option maxHeartbeats 4000000 in
theorem k_planeR_L23 {Zi : Nat → Option (Nat × (Nat → Int))} {d n : Nat} {D : Nat → Nat × Nat} {s : Nat → Int} {p : Nat → Nat} {c : Nat → Nat → Int}  {Q : mi_Rs → mi_H → Prop} (hd : 7 ≤ d) (hS : bS s) (hC : bC D c) (y : Int) (b_y : 0 ≤ y ∧ y ≤ 63) (hc_mv : mv s) (hq0 : s 3036 = 0) (hq1 : y < s 3038)
  (hK : ∀ (x : Int) (o_3 : Option mi_V) (o_4 : Option mi_V) (o_5 : Option mi_V) (o_6 : Option mi_V) (s0 : Nat → Int) (c0 : Nat → Nat → Int) (b_x : 0 ≤ x ∧ x ≤ 64) (hS0 : bS s0) (hF0 : fr s s0 [3035, 3041, 3042, 3043, 3044, 3045, 3046, 3049, 3050, 3051, 3052, 3053, 3054]) (hC0 : bC D c0) (hG0 : frc c c0 [36, 37, 38, 39, 44]) (i0 : s0 3050 = 0 → pl s0 (64 * y + x) c0) (i1 : s0 3050 = 0 → tb (s0 3037) (s0 3039) (s0 3017) (c0 44) x y) (i2 : s 3049 ≤ s0 3049) (i3 : s 3049 ≤ 32768 → s0 3049 ≤ 32768) (i4 : x ≤ s 3037) (i5 : 0 ≤ s0 3035 ∧ s0 3035 ≤ 22), (s0 3050 = 0 → s 3037 ≤ x) → tt Zi d 150 (204, [some (.inr (.inl 30)), some (.inl y), some (.inl x), o_3, o_4, o_5, o_6], [], n, D, s0, p, c0) Q) :
  ∀ (m : Nat) (x : Int) (o_3 : Option mi_V) (o_4 : Option mi_V) (o_5 : Option mi_V) (o_6 : Option mi_V) (s0 : Nat → Int) (c0 : Nat → Nat → Int) (b_x : 0 ≤ x ∧ x ≤ 64) (hS0 : bS s0) (hF0 : fr s s0 [3035, 3041, 3042, 3043, 3044, 3045, 3046, 3049, 3050, 3051, 3052, 3053, 3054]) (hC0 : bC D c0) (hG0 : frc c c0 [36, 37, 38, 39, 44]) (i0 : s0 3050 = 0 → pl s0 (64 * y + x) c0) (i1 : s0 3050 = 0 → tb (s0 3037) (s0 3039) (s0 3017) (c0 44) x y) (i2 : s 3049 ≤ s0 3049) (i3 : s 3049 ≤ 32768 → s0 3049 ≤ 32768) (i4 : x ≤ s 3037) (i5 : 0 ≤ s0 3035 ∧ s0 3035 ≤ 22), (if s0 3050 = 0 then s 3037 - x + 1 else 0).toNat < m → tt Zi d 150 (23, [some (.inr (.inl 30)), some (.inl y), some (.inl x), o_3, o_4, o_5, o_6], [], n, D, s0, p, c0) Q := by
  intro m
  induction m with
  | zero => intro x o_3 o_4 o_5 o_6 s0 c0 b_x hS0 hF0 hC0 hG0 i0 i1 i2 i3 i4 i5 hm; exact absurd hm (by omega)
  | succ m ih =>
    intro x o_3 o_4 o_5 o_6 s0 c0 b_x hS0 hF0 hC0 hG0 i0 i1 i2 i3 i4 i5 hm
    have e1 : s0 3036 = s 3036 := hF0 3036 (by decide)
    have b2 : 0 ≤ (s0 3036) ∧ (s0 3036) ≤ 1 := hS0 3036
    have b3 : 0 ≤ (s 3036) ∧ (s 3036) ≤ 1 := hS 3036
    have e4 : s0 3037 = s 3037 := hF0 3037 (by decide)
    have b5 : 0 ≤ (s0 3037) ∧ (s0 3037) ≤ 64 := hS0 3037
    have b6 : 0 ≤ (s 3037) ∧ (s 3037) ≤ 64 := hS 3037
    have e7 : s0 3038 = s 3038 := hF0 3038 (by decide)
    have b8 : 0 ≤ (s0 3038) ∧ (s0 3038) ≤ 64 := hS0 3038
    have b9 : 0 ≤ (s 3038) ∧ (s 3038) ≤ 64 := hS 3038
    have e10 : s0 3017 = s 3017 := hF0 3017 (by decide)
    have b11 : 0 ≤ (s0 3017) ∧ (s0 3017) ≤ 65535 := hS0 3017
    have b12 : 0 ≤ (s 3017) ∧ (s 3017) ≤ 65535 := hS 3017
    have e13 : s0 3039 = s 3039 := hF0 3039 (by decide)
    have b14 : 0 ≤ (s0 3039) ∧ (s0 3039) ≤ 8192 := hS0 3039
    have b15 : 0 ≤ (s 3039) ∧ (s 3039) ≤ 8192 := hS 3039
    have hc0_mv : mv s0 := mv_fr hF0 (by decide) hc_mv
    have mvx := mv_fx hc_mv
    refine tt_k 3 (S' := (28, [some (.inr (.inl 30)), some (.inl y), some (.inl x), o_3, o_4, o_5, o_6], [.inl (s0 3037), .inl x], n, D, s0, p, c0)) rfl ?_
    refine tb_ge (x := x) (y := (s0 3037)) rfl rfl (by omega) (fun h16 => ?_) (fun h16 => ?_)
    · show tt Zi d 150 (204, [some (.inr (.inl 30)), some (.inl y), some (.inl x), o_3, o_4, o_5, o_6], [], n, D, s0, p, c0) _
      exact hK x (o_3) (o_4) (o_5) (o_6) s0 c0 (by omega) hS0 hF0 hC0 hG0 i0 i1 i2 i3 i4 i5 (by intro hz; omega)
    · show tt Zi d 150 (31, [some (.inr (.inl 30)), some (.inl y), some (.inl x), o_3, o_4, o_5, o_6], [], n, D, s0, p, c0) _
      refine tt_k 2 (S' := (35, [some (.inr (.inl 30)), some (.inl y), some (.inl x), o_3, o_4, o_5, o_6], [.inl (s0 3050)], n, D, s0, p, c0)) rfl ?_
      have b17 : 0 ≤ (s0 3050) ∧ (s0 3050) ≤ 8 := hS0 3050
      refine tz_ne (x := (s0 3050)) rfl rfl (by omega) (fun h18 => ?_) (fun h18 => ?_)
      · show tt Zi d 150 (204, [some (.inr (.inl 30)), some (.inl y), some (.inl x), o_3, o_4, o_5, o_6], [], n, D, s0, p, c0) _
        exact hK x (o_3) (o_4) (o_5) (o_6) s0 c0 (by omega) hS0 hF0 hC0 hG0 i0 i1 i2 i3 i4 i5 (by intro hz; omega)
      · show tt Zi d 150 (38, [some (.inr (.inl 30)), some (.inl y), some (.inl x), o_3, o_4, o_5, o_6], [], n, D, s0, p, c0) _
        refine tt_k 3 (S' := (41, [some (.inr (.inl 30)), some (.inl y), some (.inl x), o_3, o_4, o_5, o_6], [.inl y, .inl x, .inr (.inl 30)], n, D, s0, p, c0)) rfl ?_
        refine tt_cl (by omega) rfl (k_neighbours (Zi := Zi) (D := D) (s := s0) (p := p) (c := c0) (by omega) hS0 hC0 x y (by omega) (by omega) (show x < (s0 3037) by omega) (i1 (by omega))) ?_
        rintro _ _ ⟨s19, rfl, rfl, hS19, f20, k21⟩
        have hc22 : mv s19 := mv_fr f20 (by decide) hc0_mv
        show tt Zi d 150 (44, [some (.inr (.inl 30)), some (.inl y), some (.inl x), o_3, o_4, o_5, o_6], [], n, D, s19, p, c0) _
        replace k21 : (0 ≤ (s19 3041) ∧ (s19 3041) ≤ (s0 3017)) ∧ (0 ≤ (s19 3042) ∧ (s19 3042) ≤ (s0 3017)) ∧ (0 ≤ (s19 3043) ∧ (s19 3043) ≤ (s0 3017)) ∧ (0 ≤ (s19 3044) ∧ (s19 3044) ≤ (s0 3017)) := k21
        have b23 : 0 ≤ (s19 3041) ∧ (s19 3041) ≤ 65535 := hS19 3041
        have b24 : 0 ≤ (s19 3042) ∧ (s19 3042) ≤ 65535 := hS19 3042
        have b25 : 0 ≤ (s19 3043) ∧ (s19 3043) ≤ 65535 := hS19 3043
        have b26 : 0 ≤ (s19 3044) ∧ (s19 3044) ≤ 65535 := hS19 3044
        have e27 : s19 3050 = (s0 3050) := (f20 3050 (by decide))
        have b28 : 0 ≤ (s19 3050) ∧ (s19 3050) ≤ 8 := hS19 3050
        have e29 : s19 3036 = (s0 3036) := (f20 3036 (by decide))
        have b30 : 0 ≤ (s19 3036) ∧ (s19 3036) ≤ 1 := hS19 3036
        have e31 : s19 3037 = (s0 3037) := (f20 3037 (by decide))
        have b32 : 0 ≤ (s19 3037) ∧ (s19 3037) ≤ 64 := hS19 3037
        have e33 : s19 3038 = (s0 3038) := (f20 3038 (by decide))
        have b34 : 0 ≤ (s19 3038) ∧ (s19 3038) ≤ 64 := hS19 3038
        have e35 : s19 3017 = (s0 3017) := (f20 3017 (by decide))
        have b36 : 0 ≤ (s19 3017) ∧ (s19 3017) ≤ 65535 := hS19 3017
        have e37 : s19 3039 = (s0 3039) := (f20 3039 (by decide))
        have b38 : 0 ≤ (s19 3039) ∧ (s19 3039) ≤ 8192 := hS19 3039
        have e39 : s19 3035 = (s0 3035) := (f20 3035 (by decide))
        have b40 : 0 ≤ (s19 3035) ∧ (s19 3035) ≤ 31 := hS19 3035
        have b41 : 0 ≤ (s0 3035) ∧ (s0 3035) ≤ 31 := hS0 3035
        have e42 : s19 3049 = (s0 3049) := (f20 3049 (by decide))
        have b43 : 0 ≤ (s19 3049) ∧ (s19 3049) ≤ 32769 := hS19 3049
        have b44 : 0 ≤ (s0 3049) ∧ (s0 3049) ≤ 32769 := hS0 3049
        have aP : s19 3035 = s0 3035 := f20 3035 (by decide)
        have aQ : s19 3025 = s0 3025 := f20 3025 (by decide)
        have aW : s19 3037 = s0 3037 := f20 3037 (by decide)
        have aB : s19 3039 = s0 3039 := f20 3039 (by decide)
        have aM : s19 3017 = s0 3017 := f20 3017 (by decide)
        have hpl : pl s19 (64 * y + x) c0 := pl_eq aQ rfl rfl rfl rfl (i0 (by omega))
        have htb : tb (s19 3037) (s19 3039) (s19 3017) (c0 44) x y := by rw [aW, aB, aM]; exact i1 (by omega)
        refine tt_k 6 (S' := (54, [some (.inr (.inl 30)), some (.inl y), some (.inl x), o_3, o_4, o_5, o_6], [.inl ((s19 3044) - (s19 3042)), .inr (.inl 30)], n, D, s19, p, c0)) rfl ?_
        refine tt_cl (by omega) rfl (k_gradeOf (Zi := Zi) (D := D) (s := s19) (p := p) (c := c0) (by omega) hS19 hC0 ((s19 3044) - (s19 3042)) (by omega)) ?_
        rintro _ _ ⟨r45, rfl, rfl, b46⟩
        show tt Zi d 150 (57, [some (.inr (.inl 30)), some (.inl y), some (.inl x), o_3, o_4, o_5, o_6], [.inl r45], n, D, s19, p, c0) _
        refine tt_k 7 (S' := (68, [some (.inr (.inl 30)), some (.inl y), some (.inl x), some (.inl r45), o_4, o_5, o_6], [.inl ((s19 3042) - (s19 3043)), .inr (.inl 30)], n, D, s19, p, c0)) rfl ?_
        refine tt_cl (by omega) rfl (k_gradeOf (Zi := Zi) (D := D) (s := s19) (p := p) (c := c0) (by omega) hS19 hC0 ((s19 3042) - (s19 3043)) (by omega)) ?_
        rintro _ _ ⟨r47, rfl, rfl, b48⟩
        show tt Zi d 150 (71, [some (.inr (.inl 30)), some (.inl y), some (.inl x), some (.inl r45), o_4, o_5, o_6], [.inl r47], n, D, s19, p, c0) _
        refine tt_k 7 (S' := (83, [some (.inr (.inl 30)), some (.inl y), some (.inl x), some (.inl r45), some (.inl r47), o_5, o_6], [.inl ((s19 3043) - (s19 3041)), .inr (.inl 30)], n, D, s19, p, c0)) rfl ?_
        refine tt_cl (by omega) rfl (k_gradeOf (Zi := Zi) (D := D) (s := s19) (p := p) (c := c0) (by omega) hS19 hC0 ((s19 3043) - (s19 3041)) (by omega)) ?_
        rintro _ _ ⟨r49, rfl, rfl, b50⟩
        show tt Zi d 150 (86, [some (.inr (.inl 30)), some (.inl y), some (.inl x), some (.inl r45), some (.inl r47), o_5, o_6], [.inl r49], n, D, s19, p, c0) _
        refine tt_k 2 (S' := (89, [some (.inr (.inl 30)), some (.inl y), some (.inl x), some (.inl r45), some (.inl r47), some (.inl r49), o_6], [.inl r45], n, D, s19, p, c0)) rfl ?_
        refine tz_ne (x := r45) rfl rfl (by omega) (fun h51 => ?_) (fun h51 => ?_)
        · show tt Zi d 150 (130, [some (.inr (.inl 30)), some (.inl y), some (.inl x), some (.inl r45), some (.inl r47), some (.inl r49), o_6], [], n, D, s19, p, c0) _
          refine tt_k 2 (S' := (132, [some (.inr (.inl 30)), some (.inl y), some (.inl x), some (.inl r45), some (.inl r47), some (.inl r49), o_6], [.inl r45, .inr (.inl 30)], n, D, s19, p, c0)) rfl ?_
          have K53 : ∀ (j52 : Int) , (0 ≤ j52 ∧ j52 ≤ 1) → ((r45 < 0 ∧ j52 = 1) ∨ (0 ≤ r45 ∧ r45 ≠ 0 ∧ j52 = 0) ∨ (0 ≤ r45 ∧ r45 = 0 ∧ r47 < 0 ∧ j52 = 1) ∨ (0 ≤ r45 ∧ r45 = 0 ∧ 0 ≤ r47 ∧ r47 ≠ 0 ∧ j52 = 0) ∨ (0 ≤ r45 ∧ r45 = 0 ∧ 0 ≤ r47 ∧ r47 = 0 ∧ 0 ≤ r49 ∧ j52 = 0) ∨ (0 ≤ r45 ∧ r45 = 0 ∧ 0 ≤ r47 ∧ r47 = 0 ∧ r49 < 0 ∧ j52 = 1)) → tt Zi d 150 (159, [some (.inr (.inl 30)), some (.inl y), some (.inl x), some (.inl r45), some (.inl r47), some (.inl r49), o_6], [.inl j52, .inr (.inl 30)], n, D, s19, p, c0) Q := by
            intro j52 b55 hj54
            refine tt_ptb (x := j52) rfl rfl rfl rfl rfl (by omega) ?_
            show tt Zi d 150 (162, [some (.inr (.inl 30)), some (.inl y), some (.inl x), some (.inl r45), some (.inl r47), some (.inl r49), o_6], [], n, D, (us s19 3046 j52), p, c0) _
            refine tt_k 14 (S' := (181, [some (.inr (.inl 30)), some (.inl y), some (.inl x), some (.inl r45), some (.inl r47), some (.inl r49), some (.inl ((((81 * r45) + (9 * r47)) + r49)))], [.inr (.inl 30), .inl y, .inl x, .inr (.inl 30)], n, D, (us s19 3046 j52), p, c0)) rfl ?_
            refine tt_k 1 (S' := (184, [some (.inr (.inl 30)), some (.inl y), some (.inl x), some (.inl r45), some (.inl r47), some (.inl r49), some (.inl ((((81 * r45) + (9 * r47)) + r49)))], [.inl j52, .inl y, .inl x, .inr (.inl 30)], n, D, (us s19 3046 j52), p, c0)) rfl ?_
            have K57 : ∀ (j56 : Int) , (-364 ≤ j56 ∧ j56 ≤ 364) → (0 ≤ j56 ∧ j56 ≤ 364) → (True) → tt Zi d 150 (195, [some (.inr (.inl 30)), some (.inl y), some (.inl x), some (.inl r45), some (.inl r47), some (.inl r49), some (.inl ((((81 * r45) + (9 * r47)) + r49)))], [.inl j56, .inl y, .inl x, .inr (.inl 30)], n, D, (us s19 3046 j52), p, c0) Q := by
              intro j56 b59 b60 hj58
              refine tt_cl (by omega) rfl (k_regR (Zi := Zi) (D := D) (s := (us s19 3046 j52)) (p := p) (c := c0) (by omega) (bS_us hS19 (show 0 ≤ j52 ∧ j52 ≤ 1 by omega)) hC0 (64 * y + x) x y j56 (by omega) (by omega) (by omega) (mv_us (by decide) hc22) (show (s19 3036) = 0 ∧ (s19 3050) = 0 ∧ x < (s19 3037) by omega) (show (0 ≤ (s19 3041) ∧ (s19 3041) ≤ (s19 3017)) ∧ (0 ≤ (s19 3042) ∧ (s19 3042) ≤ (s19 3017)) ∧ (0 ≤ (s19 3043) ∧ (s19 3043) ≤ (s19 3017)) by omega) (pl_eq (s := s19) rfl rfl rfl rfl rfl hpl) (show 0 ≤ (64 * y + x) ∧ (64 * y + x) ≤ 4095 by omega) htb) ?_
              rintro _ _ ⟨s61, c62, rfl, rfl, hS61, hC62, f63, g64, k65, k66, k67, k68⟩
              have hc69 : mv s61 := mv_fr f63 (by decide) (mv_us (by decide) hc22)
              show tt Zi d 150 (198, [some (.inr (.inl 30)), some (.inl y), some (.inl x), some (.inl r45), some (.inl r47), some (.inl r49), some (.inl ((((81 * r45) + (9 * r47)) + r49)))], [], n, D, s61, p, c62) _
              replace k65 : (s61 3050) = 0 → pl s61 ((64 * y + x) + 1) c62 := k65
              replace k66 : (s61 3050) = 0 → tb ((s61 3037)) ((s61 3039)) ((s61 3017)) ((c62 44)) (x + 1) y := k66
              replace k67 : (s19 3049) ≤ (s61 3049) := k67
              replace k68 : (s19 3049) ≤ 32768 → (s61 3049) ≤ 32768 := k68
              have b70 : 0 ≤ (s61 3050) ∧ (s61 3050) ≤ 8 := hS61 3050
              have b71 : 0 ≤ (s61 3037) ∧ (s61 3037) ≤ 64 := hS61 3037
              have b72 : 0 ≤ (s61 3039) ∧ (s61 3039) ≤ 8192 := hS61 3039
              have b73 : 0 ≤ (s61 3017) ∧ (s61 3017) ≤ 65535 := hS61 3017
              have b74 : 0 ≤ (s61 3049) ∧ (s61 3049) ≤ 32769 := hS61 3049
              have e75 : s61 3036 = (s19 3036) := (f63 3036 (by decide))
              have b76 : 0 ≤ (s61 3036) ∧ (s61 3036) ≤ 1 := hS61 3036
              have e77 : s61 3037 = (s19 3037) := (f63 3037 (by decide))
              have e78 : s61 3038 = (s19 3038) := (f63 3038 (by decide))
              have b79 : 0 ≤ (s61 3038) ∧ (s61 3038) ≤ 64 := hS61 3038
              have e80 : s61 3017 = (s19 3017) := (f63 3017 (by decide))
              have e81 : s61 3039 = (s19 3039) := (f63 3039 (by decide))
              have e82 : s61 3035 = (s19 3035) := (f63 3035 (by decide))
              have b83 : 0 ≤ (s61 3035) ∧ (s61 3035) ≤ 31 := hS61 3035
              refine tt_k 2 (S' := (23, [some (.inr (.inl 30)), some (.inl y), some (.inl (x + 1)), some (.inl r45), some (.inl r47), some (.inl r49), some (.inl ((((81 * r45) + (9 * r47)) + r49)))], [], n, D, s61, p, c62)) rfl ?_
              have hxe : 64 * y + (x + 1) = 64 * y + x + 1 := by omega
              exact ih (x + 1) (some (.inl r45)) (some (.inl r47)) (some (.inl r49)) (some (.inl ((((81 * r45) + (9 * r47)) + r49)))) s61 c62 (by omega) hS61 (fr_tr (fr_us (by decide) (fr_tr hF0 f20 (by decide))) f63 (by decide)) hC62 (frc_tr hG0 g64 (by decide)) (by rw [hxe]; exact k65) k66 (show s 3049 ≤ (s61 3049) by omega) (show s 3049 ≤ 32768 → (s61 3049) ≤ 32768 by omega) (show (x + 1) ≤ s 3037 by omega) (show 0 ≤ (s61 3035) ∧ (s61 3035) ≤ 22 by omega) (show (if (s61 3050) = 0 then s 3037 - (x + 1) + 1 else 0).toNat < m by omega)
            refine tz_eq (x := j52) rfl rfl (by omega) (fun h84 => ?_) (fun h84 => ?_)
            · show tt Zi d 150 (193, [some (.inr (.inl 30)), some (.inl y), some (.inl x), some (.inl r45), some (.inl r47), some (.inl r49), some (.inl ((((81 * r45) + (9 * r47)) + r49)))], [.inl y, .inl x, .inr (.inl 30)], n, D, (us s19 3046 j52), p, c0) _
              refine tt_k 1 (S' := (195, [some (.inr (.inl 30)), some (.inl y), some (.inl x), some (.inl r45), some (.inl r47), some (.inl r49), some (.inl ((((81 * r45) + (9 * r47)) + r49)))], [.inl ((((81 * r45) + (9 * r47)) + r49)), .inl y, .inl x, .inr (.inl 30)], n, D, (us s19 3046 j52), p, c0)) rfl ?_
              exact K57 ((((81 * r45) + (9 * r47)) + r49))  (by omega) (by omega) (trivial)
            · show tt Zi d 150 (187, [some (.inr (.inl 30)), some (.inl y), some (.inl x), some (.inl r45), some (.inl r47), some (.inl r49), some (.inl ((((81 * r45) + (9 * r47)) + r49)))], [.inl y, .inl x, .inr (.inl 30)], n, D, (us s19 3046 j52), p, c0) _
              refine tt_k 3 (S' := (195, [some (.inr (.inl 30)), some (.inl y), some (.inl x), some (.inl r45), some (.inl r47), some (.inl r49), some (.inl ((((81 * r45) + (9 * r47)) + r49)))], [.inl ((-(((81 * r45) + (9 * r47)) + r49))), .inl y, .inl x, .inr (.inl 30)], n, D, (us s19 3046 j52), p, c0)) rfl ?_
              exact K57 ((-(((81 * r45) + (9 * r47)) + r49)))  (by omega) (by omega) (trivial)
          refine tz_lt (x := r45) rfl rfl (by omega) (fun h85 => ?_) (fun h85 => ?_)
          · show tt Zi d 150 (154, [some (.inr (.inl 30)), some (.inl y), some (.inl x), some (.inl r45), some (.inl r47), some (.inl r49), o_6], [.inr (.inl 30)], n, D, s19, p, c0) _
            refine tt_k 2 (S' := (159, [some (.inr (.inl 30)), some (.inl y), some (.inl x), some (.inl r45), some (.inl r47), some (.inl r49), o_6], [.inl 1, .inr (.inl 30)], n, D, s19, p, c0)) rfl ?_
            exact K53 1  (by omega) (Or.inl ⟨h85, rfl⟩)
          · show tt Zi d 150 (135, [some (.inr (.inl 30)), some (.inl y), some (.inl x), some (.inl r45), some (.inl r47), some (.inl r49), o_6], [.inr (.inl 30)], n, D, s19, p, c0) _
            refine tt_k 1 (S' := (136, [some (.inr (.inl 30)), some (.inl y), some (.inl x), some (.inl r45), some (.inl r47), some (.inl r49), o_6], [.inl r45, .inr (.inl 30)], n, D, s19, p, c0)) rfl ?_
            refine tz_ne (x := r45) rfl rfl (by omega) (fun h86 => ?_) (fun h86 => ?_)
            · show tt Zi d 150 (158, [some (.inr (.inl 30)), some (.inl y), some (.inl x), some (.inl r45), some (.inl r47), some (.inl r49), o_6], [.inr (.inl 30)], n, D, s19, p, c0) _
              refine tt_k 1 (S' := (159, [some (.inr (.inl 30)), some (.inl y), some (.inl x), some (.inl r45), some (.inl r47), some (.inl r49), o_6], [.inl 0, .inr (.inl 30)], n, D, s19, p, c0)) rfl ?_
              exact K53 0  (by omega) (Or.inr (Or.inl ⟨h85, h86, rfl⟩))
            · show tt Zi d 150 (139, [some (.inr (.inl 30)), some (.inl y), some (.inl x), some (.inl r45), some (.inl r47), some (.inl r49), o_6], [.inr (.inl 30)], n, D, s19, p, c0) _
              refine tt_k 1 (S' := (141, [some (.inr (.inl 30)), some (.inl y), some (.inl x), some (.inl r45), some (.inl r47), some (.inl r49), o_6], [.inl r47, .inr (.inl 30)], n, D, s19, p, c0)) rfl ?_
              refine tz_lt (x := r47) rfl rfl (by omega) (fun h87 => ?_) (fun h87 => ?_)
              · show tt Zi d 150 (154, [some (.inr (.inl 30)), some (.inl y), some (.inl x), some (.inl r45), some (.inl r47), some (.inl r49), o_6], [.inr (.inl 30)], n, D, s19, p, c0) _
                refine tt_k 2 (S' := (159, [some (.inr (.inl 30)), some (.inl y), some (.inl x), some (.inl r45), some (.inl r47), some (.inl r49), o_6], [.inl 1, .inr (.inl 30)], n, D, s19, p, c0)) rfl ?_
                exact K53 1  (by omega) (Or.inr (Or.inr (Or.inl ⟨h85, h86, h87, rfl⟩)))
              · show tt Zi d 150 (144, [some (.inr (.inl 30)), some (.inl y), some (.inl x), some (.inl r45), some (.inl r47), some (.inl r49), o_6], [.inr (.inl 30)], n, D, s19, p, c0) _
                refine tt_k 1 (S' := (146, [some (.inr (.inl 30)), some (.inl y), some (.inl x), some (.inl r45), some (.inl r47), some (.inl r49), o_6], [.inl r47, .inr (.inl 30)], n, D, s19, p, c0)) rfl ?_
                refine tz_ne (x := r47) rfl rfl (by omega) (fun h88 => ?_) (fun h88 => ?_)
                · show tt Zi d 150 (158, [some (.inr (.inl 30)), some (.inl y), some (.inl x), some (.inl r45), some (.inl r47), some (.inl r49), o_6], [.inr (.inl 30)], n, D, s19, p, c0) _
                  refine tt_k 1 (S' := (159, [some (.inr (.inl 30)), some (.inl y), some (.inl x), some (.inl r45), some (.inl r47), some (.inl r49), o_6], [.inl 0, .inr (.inl 30)], n, D, s19, p, c0)) rfl ?_
                  exact K53 0  (by omega) (Or.inr (Or.inr (Or.inr (Or.inl ⟨h85, h86, h87, h88, rfl⟩))))
                · show tt Zi d 150 (149, [some (.inr (.inl 30)), some (.inl y), some (.inl x), some (.inl r45), some (.inl r47), some (.inl r49), o_6], [.inr (.inl 30)], n, D, s19, p, c0) _
                  refine tt_k 1 (S' := (151, [some (.inr (.inl 30)), some (.inl y), some (.inl x), some (.inl r45), some (.inl r47), some (.inl r49), o_6], [.inl r49, .inr (.inl 30)], n, D, s19, p, c0)) rfl ?_
                  refine tz_ge (x := r49) rfl rfl (by omega) (fun h89 => ?_) (fun h89 => ?_)
                  · show tt Zi d 150 (158, [some (.inr (.inl 30)), some (.inl y), some (.inl x), some (.inl r45), some (.inl r47), some (.inl r49), o_6], [.inr (.inl 30)], n, D, s19, p, c0) _
                    refine tt_k 1 (S' := (159, [some (.inr (.inl 30)), some (.inl y), some (.inl x), some (.inl r45), some (.inl r47), some (.inl r49), o_6], [.inl 0, .inr (.inl 30)], n, D, s19, p, c0)) rfl ?_
                    exact K53 0  (by omega) (Or.inr (Or.inr (Or.inr (Or.inr (Or.inl ⟨h85, h86, h87, h88, h89, rfl⟩)))))
                  · show tt Zi d 150 (154, [some (.inr (.inl 30)), some (.inl y), some (.inl x), some (.inl r45), some (.inl r47), some (.inl r49), o_6], [.inr (.inl 30)], n, D, s19, p, c0) _
                    refine tt_k 2 (S' := (159, [some (.inr (.inl 30)), some (.inl y), some (.inl x), some (.inl r45), some (.inl r47), some (.inl r49), o_6], [.inl 1, .inr (.inl 30)], n, D, s19, p, c0)) rfl ?_
                    exact K53 1  (by omega) (Or.inr (Or.inr (Or.inr (Or.inr (Or.inr (⟨h85, h86, h87, h88, h89, rfl⟩))))))
        · show tt Zi d 150 (92, [some (.inr (.inl 30)), some (.inl y), some (.inl x), some (.inl r45), some (.inl r47), some (.inl r49), o_6], [], n, D, s19, p, c0) _
          refine tt_k 1 (S' := (94, [some (.inr (.inl 30)), some (.inl y), some (.inl x), some (.inl r45), some (.inl r47), some (.inl r49), o_6], [.inl r47], n, D, s19, p, c0)) rfl ?_
          refine tz_ne (x := r47) rfl rfl (by omega) (fun h90 => ?_) (fun h90 => ?_)
          · show tt Zi d 150 (130, [some (.inr (.inl 30)), some (.inl y), some (.inl x), some (.inl r45), some (.inl r47), some (.inl r49), o_6], [], n, D, s19, p, c0) _
            refine tt_k 2 (S' := (132, [some (.inr (.inl 30)), some (.inl y), some (.inl x), some (.inl r45), some (.inl r47), some (.inl r49), o_6], [.inl r45, .inr (.inl 30)], n, D, s19, p, c0)) rfl ?_
            have K92 : ∀ (j91 : Int) , (0 ≤ j91 ∧ j91 ≤ 1) → ((0 ≤ r45 ∧ r45 = 0 ∧ r47 < 0 ∧ j91 = 1) ∨ (0 ≤ r45 ∧ r45 = 0 ∧ 0 ≤ r47 ∧ r47 ≠ 0 ∧ j91 = 0) ∨ (0 ≤ r45 ∧ r45 = 0 ∧ 0 ≤ r47 ∧ r47 = 0 ∧ 0 ≤ r49 ∧ j91 = 0) ∨ (0 ≤ r45 ∧ r45 = 0 ∧ 0 ≤ r47 ∧ r47 = 0 ∧ r49 < 0 ∧ j91 = 1)) → tt Zi d 150 (159, [some (.inr (.inl 30)), some (.inl y), some (.inl x), some (.inl r45), some (.inl r47), some (.inl r49), o_6], [.inl j91, .inr (.inl 30)], n, D, s19, p, c0) Q := by
              intro j91 b94 hj93
              refine tt_ptb (x := j91) rfl rfl rfl rfl rfl (by omega) ?_
              show tt Zi d 150 (162, [some (.inr (.inl 30)), some (.inl y), some (.inl x), some (.inl r45), some (.inl r47), some (.inl r49), o_6], [], n, D, (us s19 3046 j91), p, c0) _
              refine tt_k 14 (S' := (181, [some (.inr (.inl 30)), some (.inl y), some (.inl x), some (.inl r45), some (.inl r47), some (.inl r49), some (.inl ((((81 * r45) + (9 * r47)) + r49)))], [.inr (.inl 30), .inl y, .inl x, .inr (.inl 30)], n, D, (us s19 3046 j91), p, c0)) rfl ?_
              refine tt_k 1 (S' := (184, [some (.inr (.inl 30)), some (.inl y), some (.inl x), some (.inl r45), some (.inl r47), some (.inl r49), some (.inl ((((81 * r45) + (9 * r47)) + r49)))], [.inl j91, .inl y, .inl x, .inr (.inl 30)], n, D, (us s19 3046 j91), p, c0)) rfl ?_
              have K96 : ∀ (j95 : Int) , (-40 ≤ j95 ∧ j95 ≤ 40) → (0 ≤ j95 ∧ j95 ≤ 364) → (True) → tt Zi d 150 (195, [some (.inr (.inl 30)), some (.inl y), some (.inl x), some (.inl r45), some (.inl r47), some (.inl r49), some (.inl ((((81 * r45) + (9 * r47)) + r49)))], [.inl j95, .inl y, .inl x, .inr (.inl 30)], n, D, (us s19 3046 j91), p, c0) Q := by
                intro j95 b98 b99 hj97
                refine tt_cl (by omega) rfl (k_regR (Zi := Zi) (D := D) (s := (us s19 3046 j91)) (p := p) (c := c0) (by omega) (bS_us hS19 (show 0 ≤ j91 ∧ j91 ≤ 1 by omega)) hC0 (64 * y + x) x y j95 (by omega) (by omega) (by omega) (mv_us (by decide) hc22) (show (s19 3036) = 0 ∧ (s19 3050) = 0 ∧ x < (s19 3037) by omega) (show (0 ≤ (s19 3041) ∧ (s19 3041) ≤ (s19 3017)) ∧ (0 ≤ (s19 3042) ∧ (s19 3042) ≤ (s19 3017)) ∧ (0 ≤ (s19 3043) ∧ (s19 3043) ≤ (s19 3017)) by omega) (pl_eq (s := s19) rfl rfl rfl rfl rfl hpl) (show 0 ≤ (64 * y + x) ∧ (64 * y + x) ≤ 4095 by omega) htb) ?_
                rintro _ _ ⟨s100, c101, rfl, rfl, hS100, hC101, f102, g103, k104, k105, k106, k107⟩
                have hc108 : mv s100 := mv_fr f102 (by decide) (mv_us (by decide) hc22)
                show tt Zi d 150 (198, [some (.inr (.inl 30)), some (.inl y), some (.inl x), some (.inl r45), some (.inl r47), some (.inl r49), some (.inl ((((81 * r45) + (9 * r47)) + r49)))], [], n, D, s100, p, c101) _
                replace k104 : (s100 3050) = 0 → pl s100 ((64 * y + x) + 1) c101 := k104
                replace k105 : (s100 3050) = 0 → tb ((s100 3037)) ((s100 3039)) ((s100 3017)) ((c101 44)) (x + 1) y := k105
                replace k106 : (s19 3049) ≤ (s100 3049) := k106
                replace k107 : (s19 3049) ≤ 32768 → (s100 3049) ≤ 32768 := k107
                have b109 : 0 ≤ (s100 3050) ∧ (s100 3050) ≤ 8 := hS100 3050
                have b110 : 0 ≤ (s100 3037) ∧ (s100 3037) ≤ 64 := hS100 3037
                have b111 : 0 ≤ (s100 3039) ∧ (s100 3039) ≤ 8192 := hS100 3039
                have b112 : 0 ≤ (s100 3017) ∧ (s100 3017) ≤ 65535 := hS100 3017
                have b113 : 0 ≤ (s100 3049) ∧ (s100 3049) ≤ 32769 := hS100 3049
                have e114 : s100 3036 = (s19 3036) := (f102 3036 (by decide))
                have b115 : 0 ≤ (s100 3036) ∧ (s100 3036) ≤ 1 := hS100 3036
                have e116 : s100 3037 = (s19 3037) := (f102 3037 (by decide))
                have e117 : s100 3038 = (s19 3038) := (f102 3038 (by decide))
                have b118 : 0 ≤ (s100 3038) ∧ (s100 3038) ≤ 64 := hS100 3038
                have e119 : s100 3017 = (s19 3017) := (f102 3017 (by decide))
                have e120 : s100 3039 = (s19 3039) := (f102 3039 (by decide))
                have e121 : s100 3035 = (s19 3035) := (f102 3035 (by decide))
                have b122 : 0 ≤ (s100 3035) ∧ (s100 3035) ≤ 31 := hS100 3035
                refine tt_k 2 (S' := (23, [some (.inr (.inl 30)), some (.inl y), some (.inl (x + 1)), some (.inl r45), some (.inl r47), some (.inl r49), some (.inl ((((81 * r45) + (9 * r47)) + r49)))], [], n, D, s100, p, c101)) rfl ?_
                have hxe : 64 * y + (x + 1) = 64 * y + x + 1 := by omega
                exact ih (x + 1) (some (.inl r45)) (some (.inl r47)) (some (.inl r49)) (some (.inl ((((81 * r45) + (9 * r47)) + r49)))) s100 c101 (by omega) hS100 (fr_tr (fr_us (by decide) (fr_tr hF0 f20 (by decide))) f102 (by decide)) hC101 (frc_tr hG0 g103 (by decide)) (by rw [hxe]; exact k104) k105 (show s 3049 ≤ (s100 3049) by omega) (show s 3049 ≤ 32768 → (s100 3049) ≤ 32768 by omega) (show (x + 1) ≤ s 3037 by omega) (show 0 ≤ (s100 3035) ∧ (s100 3035) ≤ 22 by omega) (show (if (s100 3050) = 0 then s 3037 - (x + 1) + 1 else 0).toNat < m by omega)
              refine tz_eq (x := j91) rfl rfl (by omega) (fun h123 => ?_) (fun h123 => ?_)
              · show tt Zi d 150 (193, [some (.inr (.inl 30)), some (.inl y), some (.inl x), some (.inl r45), some (.inl r47), some (.inl r49), some (.inl ((((81 * r45) + (9 * r47)) + r49)))], [.inl y, .inl x, .inr (.inl 30)], n, D, (us s19 3046 j91), p, c0) _
                refine tt_k 1 (S' := (195, [some (.inr (.inl 30)), some (.inl y), some (.inl x), some (.inl r45), some (.inl r47), some (.inl r49), some (.inl ((((81 * r45) + (9 * r47)) + r49)))], [.inl ((((81 * r45) + (9 * r47)) + r49)), .inl y, .inl x, .inr (.inl 30)], n, D, (us s19 3046 j91), p, c0)) rfl ?_
                exact K96 ((((81 * r45) + (9 * r47)) + r49))  (by omega) (by omega) (trivial)
              · show tt Zi d 150 (187, [some (.inr (.inl 30)), some (.inl y), some (.inl x), some (.inl r45), some (.inl r47), some (.inl r49), some (.inl ((((81 * r45) + (9 * r47)) + r49)))], [.inl y, .inl x, .inr (.inl 30)], n, D, (us s19 3046 j91), p, c0) _
                refine tt_k 3 (S' := (195, [some (.inr (.inl 30)), some (.inl y), some (.inl x), some (.inl r45), some (.inl r47), some (.inl r49), some (.inl ((((81 * r45) + (9 * r47)) + r49)))], [.inl ((-(((81 * r45) + (9 * r47)) + r49))), .inl y, .inl x, .inr (.inl 30)], n, D, (us s19 3046 j91), p, c0)) rfl ?_
                exact K96 ((-(((81 * r45) + (9 * r47)) + r49)))  (by omega) (by omega) (trivial)
            refine tz_lt (x := r45) rfl rfl (by omega) (fun h124 => ?_) (fun h124 => ?_)
            · exfalso; omega
            · show tt Zi d 150 (135, [some (.inr (.inl 30)), some (.inl y), some (.inl x), some (.inl r45), some (.inl r47), some (.inl r49), o_6], [.inr (.inl 30)], n, D, s19, p, c0) _
              refine tt_k 1 (S' := (136, [some (.inr (.inl 30)), some (.inl y), some (.inl x), some (.inl r45), some (.inl r47), some (.inl r49), o_6], [.inl r45, .inr (.inl 30)], n, D, s19, p, c0)) rfl ?_
              refine tz_ne (x := r45) rfl rfl (by omega) (fun h125 => ?_) (fun h125 => ?_)
              · exfalso; omega
              · show tt Zi d 150 (139, [some (.inr (.inl 30)), some (.inl y), some (.inl x), some (.inl r45), some (.inl r47), some (.inl r49), o_6], [.inr (.inl 30)], n, D, s19, p, c0) _
                refine tt_k 1 (S' := (141, [some (.inr (.inl 30)), some (.inl y), some (.inl x), some (.inl r45), some (.inl r47), some (.inl r49), o_6], [.inl r47, .inr (.inl 30)], n, D, s19, p, c0)) rfl ?_
                refine tz_lt (x := r47) rfl rfl (by omega) (fun h126 => ?_) (fun h126 => ?_)
                · show tt Zi d 150 (154, [some (.inr (.inl 30)), some (.inl y), some (.inl x), some (.inl r45), some (.inl r47), some (.inl r49), o_6], [.inr (.inl 30)], n, D, s19, p, c0) _
                  refine tt_k 2 (S' := (159, [some (.inr (.inl 30)), some (.inl y), some (.inl x), some (.inl r45), some (.inl r47), some (.inl r49), o_6], [.inl 1, .inr (.inl 30)], n, D, s19, p, c0)) rfl ?_
                  exact K92 1  (by omega) (Or.inl ⟨h124, h125, h126, rfl⟩)
                · show tt Zi d 150 (144, [some (.inr (.inl 30)), some (.inl y), some (.inl x), some (.inl r45), some (.inl r47), some (.inl r49), o_6], [.inr (.inl 30)], n, D, s19, p, c0) _
                  refine tt_k 1 (S' := (146, [some (.inr (.inl 30)), some (.inl y), some (.inl x), some (.inl r45), some (.inl r47), some (.inl r49), o_6], [.inl r47, .inr (.inl 30)], n, D, s19, p, c0)) rfl ?_
                  refine tz_ne (x := r47) rfl rfl (by omega) (fun h127 => ?_) (fun h127 => ?_)
                  · show tt Zi d 150 (158, [some (.inr (.inl 30)), some (.inl y), some (.inl x), some (.inl r45), some (.inl r47), some (.inl r49), o_6], [.inr (.inl 30)], n, D, s19, p, c0) _
                    refine tt_k 1 (S' := (159, [some (.inr (.inl 30)), some (.inl y), some (.inl x), some (.inl r45), some (.inl r47), some (.inl r49), o_6], [.inl 0, .inr (.inl 30)], n, D, s19, p, c0)) rfl ?_
                    exact K92 0  (by omega) (Or.inr (Or.inl ⟨h124, h125, h126, h127, rfl⟩))
                  · show tt Zi d 150 (149, [some (.inr (.inl 30)), some (.inl y), some (.inl x), some (.inl r45), some (.inl r47), some (.inl r49), o_6], [.inr (.inl 30)], n, D, s19, p, c0) _
                    refine tt_k 1 (S' := (151, [some (.inr (.inl 30)), some (.inl y), some (.inl x), some (.inl r45), some (.inl r47), some (.inl r49), o_6], [.inl r49, .inr (.inl 30)], n, D, s19, p, c0)) rfl ?_
                    refine tz_ge (x := r49) rfl rfl (by omega) (fun h128 => ?_) (fun h128 => ?_)
                    · show tt Zi d 150 (158, [some (.inr (.inl 30)), some (.inl y), some (.inl x), some (.inl r45), some (.inl r47), some (.inl r49), o_6], [.inr (.inl 30)], n, D, s19, p, c0) _
                      refine tt_k 1 (S' := (159, [some (.inr (.inl 30)), some (.inl y), some (.inl x), some (.inl r45), some (.inl r47), some (.inl r49), o_6], [.inl 0, .inr (.inl 30)], n, D, s19, p, c0)) rfl ?_
                      exact K92 0  (by omega) (Or.inr (Or.inr (Or.inl ⟨h124, h125, h126, h127, h128, rfl⟩)))
                    · show tt Zi d 150 (154, [some (.inr (.inl 30)), some (.inl y), some (.inl x), some (.inl r45), some (.inl r47), some (.inl r49), o_6], [.inr (.inl 30)], n, D, s19, p, c0) _
                      refine tt_k 2 (S' := (159, [some (.inr (.inl 30)), some (.inl y), some (.inl x), some (.inl r45), some (.inl r47), some (.inl r49), o_6], [.inl 1, .inr (.inl 30)], n, D, s19, p, c0)) rfl ?_
                      exact K92 1  (by omega) (Or.inr (Or.inr (Or.inr (⟨h124, h125, h126, h127, h128, rfl⟩))))
          · show tt Zi d 150 (97, [some (.inr (.inl 30)), some (.inl y), some (.inl x), some (.inl r45), some (.inl r47), some (.inl r49), o_6], [], n, D, s19, p, c0) _
            refine tt_k 1 (S' := (99, [some (.inr (.inl 30)), some (.inl y), some (.inl x), some (.inl r45), some (.inl r47), some (.inl r49), o_6], [.inl r49], n, D, s19, p, c0)) rfl ?_
            refine tz_ne (x := r49) rfl rfl (by omega) (fun h129 => ?_) (fun h129 => ?_)
            · show tt Zi d 150 (130, [some (.inr (.inl 30)), some (.inl y), some (.inl x), some (.inl r45), some (.inl r47), some (.inl r49), o_6], [], n, D, s19, p, c0) _
              refine tt_k 2 (S' := (132, [some (.inr (.inl 30)), some (.inl y), some (.inl x), some (.inl r45), some (.inl r47), some (.inl r49), o_6], [.inl r45, .inr (.inl 30)], n, D, s19, p, c0)) rfl ?_
              have K131 : ∀ (j130 : Int) , (0 ≤ j130 ∧ j130 ≤ 1) → ((0 ≤ r45 ∧ r45 = 0 ∧ 0 ≤ r47 ∧ r47 = 0 ∧ 0 ≤ r49 ∧ j130 = 0) ∨ (0 ≤ r45 ∧ r45 = 0 ∧ 0 ≤ r47 ∧ r47 = 0 ∧ r49 < 0 ∧ j130 = 1)) → tt Zi d 150 (159, [some (.inr (.inl 30)), some (.inl y), some (.inl x), some (.inl r45), some (.inl r47), some (.inl r49), o_6], [.inl j130, .inr (.inl 30)], n, D, s19, p, c0) Q := by
                intro j130 b133 hj132
                refine tt_ptb (x := j130) rfl rfl rfl rfl rfl (by omega) ?_
                show tt Zi d 150 (162, [some (.inr (.inl 30)), some (.inl y), some (.inl x), some (.inl r45), some (.inl r47), some (.inl r49), o_6], [], n, D, (us s19 3046 j130), p, c0) _
                refine tt_k 14 (S' := (181, [some (.inr (.inl 30)), some (.inl y), some (.inl x), some (.inl r45), some (.inl r47), some (.inl r49), some (.inl ((((81 * r45) + (9 * r47)) + r49)))], [.inr (.inl 30), .inl y, .inl x, .inr (.inl 30)], n, D, (us s19 3046 j130), p, c0)) rfl ?_
                refine tt_k 1 (S' := (184, [some (.inr (.inl 30)), some (.inl y), some (.inl x), some (.inl r45), some (.inl r47), some (.inl r49), some (.inl ((((81 * r45) + (9 * r47)) + r49)))], [.inl j130, .inl y, .inl x, .inr (.inl 30)], n, D, (us s19 3046 j130), p, c0)) rfl ?_
                have K135 : ∀ (j134 : Int) , (-4 ≤ j134 ∧ j134 ≤ 4) → (0 ≤ j134 ∧ j134 ≤ 364) → (True) → tt Zi d 150 (195, [some (.inr (.inl 30)), some (.inl y), some (.inl x), some (.inl r45), some (.inl r47), some (.inl r49), some (.inl ((((81 * r45) + (9 * r47)) + r49)))], [.inl j134, .inl y, .inl x, .inr (.inl 30)], n, D, (us s19 3046 j130), p, c0) Q := by
                  intro j134 b137 b138 hj136
                  refine tt_cl (by omega) rfl (k_regR (Zi := Zi) (D := D) (s := (us s19 3046 j130)) (p := p) (c := c0) (by omega) (bS_us hS19 (show 0 ≤ j130 ∧ j130 ≤ 1 by omega)) hC0 (64 * y + x) x y j134 (by omega) (by omega) (by omega) (mv_us (by decide) hc22) (show (s19 3036) = 0 ∧ (s19 3050) = 0 ∧ x < (s19 3037) by omega) (show (0 ≤ (s19 3041) ∧ (s19 3041) ≤ (s19 3017)) ∧ (0 ≤ (s19 3042) ∧ (s19 3042) ≤ (s19 3017)) ∧ (0 ≤ (s19 3043) ∧ (s19 3043) ≤ (s19 3017)) by omega) (pl_eq (s := s19) rfl rfl rfl rfl rfl hpl) (show 0 ≤ (64 * y + x) ∧ (64 * y + x) ≤ 4095 by omega) htb) ?_
                  rintro _ _ ⟨s139, c140, rfl, rfl, hS139, hC140, f141, g142, k143, k144, k145, k146⟩
                  have hc147 : mv s139 := mv_fr f141 (by decide) (mv_us (by decide) hc22)
                  show tt Zi d 150 (198, [some (.inr (.inl 30)), some (.inl y), some (.inl x), some (.inl r45), some (.inl r47), some (.inl r49), some (.inl ((((81 * r45) + (9 * r47)) + r49)))], [], n, D, s139, p, c140) _
                  replace k143 : (s139 3050) = 0 → pl s139 ((64 * y + x) + 1) c140 := k143
                  replace k144 : (s139 3050) = 0 → tb ((s139 3037)) ((s139 3039)) ((s139 3017)) ((c140 44)) (x + 1) y := k144
                  replace k145 : (s19 3049) ≤ (s139 3049) := k145
                  replace k146 : (s19 3049) ≤ 32768 → (s139 3049) ≤ 32768 := k146
                  have b148 : 0 ≤ (s139 3050) ∧ (s139 3050) ≤ 8 := hS139 3050
                  have b149 : 0 ≤ (s139 3037) ∧ (s139 3037) ≤ 64 := hS139 3037
                  have b150 : 0 ≤ (s139 3039) ∧ (s139 3039) ≤ 8192 := hS139 3039
                  have b151 : 0 ≤ (s139 3017) ∧ (s139 3017) ≤ 65535 := hS139 3017
                  have b152 : 0 ≤ (s139 3049) ∧ (s139 3049) ≤ 32769 := hS139 3049
                  have e153 : s139 3036 = (s19 3036) := (f141 3036 (by decide))
                  have b154 : 0 ≤ (s139 3036) ∧ (s139 3036) ≤ 1 := hS139 3036
                  have e155 : s139 3037 = (s19 3037) := (f141 3037 (by decide))
                  have e156 : s139 3038 = (s19 3038) := (f141 3038 (by decide))
                  have b157 : 0 ≤ (s139 3038) ∧ (s139 3038) ≤ 64 := hS139 3038
                  have e158 : s139 3017 = (s19 3017) := (f141 3017 (by decide))
                  have e159 : s139 3039 = (s19 3039) := (f141 3039 (by decide))
                  have e160 : s139 3035 = (s19 3035) := (f141 3035 (by decide))
                  have b161 : 0 ≤ (s139 3035) ∧ (s139 3035) ≤ 31 := hS139 3035
                  refine tt_k 2 (S' := (23, [some (.inr (.inl 30)), some (.inl y), some (.inl (x + 1)), some (.inl r45), some (.inl r47), some (.inl r49), some (.inl ((((81 * r45) + (9 * r47)) + r49)))], [], n, D, s139, p, c140)) rfl ?_
                  have hxe : 64 * y + (x + 1) = 64 * y + x + 1 := by omega
                  exact ih (x + 1) (some (.inl r45)) (some (.inl r47)) (some (.inl r49)) (some (.inl ((((81 * r45) + (9 * r47)) + r49)))) s139 c140 (by omega) hS139 (fr_tr (fr_us (by decide) (fr_tr hF0 f20 (by decide))) f141 (by decide)) hC140 (frc_tr hG0 g142 (by decide)) (by rw [hxe]; exact k143) k144 (show s 3049 ≤ (s139 3049) by omega) (show s 3049 ≤ 32768 → (s139 3049) ≤ 32768 by omega) (show (x + 1) ≤ s 3037 by omega) (show 0 ≤ (s139 3035) ∧ (s139 3035) ≤ 22 by omega) (show (if (s139 3050) = 0 then s 3037 - (x + 1) + 1 else 0).toNat < m by omega)
                refine tz_eq (x := j130) rfl rfl (by omega) (fun h162 => ?_) (fun h162 => ?_)
                · show tt Zi d 150 (193, [some (.inr (.inl 30)), some (.inl y), some (.inl x), some (.inl r45), some (.inl r47), some (.inl r49), some (.inl ((((81 * r45) + (9 * r47)) + r49)))], [.inl y, .inl x, .inr (.inl 30)], n, D, (us s19 3046 j130), p, c0) _
                  refine tt_k 1 (S' := (195, [some (.inr (.inl 30)), some (.inl y), some (.inl x), some (.inl r45), some (.inl r47), some (.inl r49), some (.inl ((((81 * r45) + (9 * r47)) + r49)))], [.inl ((((81 * r45) + (9 * r47)) + r49)), .inl y, .inl x, .inr (.inl 30)], n, D, (us s19 3046 j130), p, c0)) rfl ?_
                  exact K135 ((((81 * r45) + (9 * r47)) + r49))  (by omega) (by omega) (trivial)
                · show tt Zi d 150 (187, [some (.inr (.inl 30)), some (.inl y), some (.inl x), some (.inl r45), some (.inl r47), some (.inl r49), some (.inl ((((81 * r45) + (9 * r47)) + r49)))], [.inl y, .inl x, .inr (.inl 30)], n, D, (us s19 3046 j130), p, c0) _
                  refine tt_k 3 (S' := (195, [some (.inr (.inl 30)), some (.inl y), some (.inl x), some (.inl r45), some (.inl r47), some (.inl r49), some (.inl ((((81 * r45) + (9 * r47)) + r49)))], [.inl ((-(((81 * r45) + (9 * r47)) + r49))), .inl y, .inl x, .inr (.inl 30)], n, D, (us s19 3046 j130), p, c0)) rfl ?_
                  exact K135 ((-(((81 * r45) + (9 * r47)) + r49)))  (by omega) (by omega) (trivial)
              refine tz_lt (x := r45) rfl rfl (by omega) (fun h163 => ?_) (fun h163 => ?_)
              · exfalso; omega
              · show tt Zi d 150 (135, [some (.inr (.inl 30)), some (.inl y), some (.inl x), some (.inl r45), some (.inl r47), some (.inl r49), o_6], [.inr (.inl 30)], n, D, s19, p, c0) _
                refine tt_k 1 (S' := (136, [some (.inr (.inl 30)), some (.inl y), some (.inl x), some (.inl r45), some (.inl r47), some (.inl r49), o_6], [.inl r45, .inr (.inl 30)], n, D, s19, p, c0)) rfl ?_
                refine tz_ne (x := r45) rfl rfl (by omega) (fun h164 => ?_) (fun h164 => ?_)
                · exfalso; omega
                · show tt Zi d 150 (139, [some (.inr (.inl 30)), some (.inl y), some (.inl x), some (.inl r45), some (.inl r47), some (.inl r49), o_6], [.inr (.inl 30)], n, D, s19, p, c0) _
                  refine tt_k 1 (S' := (141, [some (.inr (.inl 30)), some (.inl y), some (.inl x), some (.inl r45), some (.inl r47), some (.inl r49), o_6], [.inl r47, .inr (.inl 30)], n, D, s19, p, c0)) rfl ?_
                  refine tz_lt (x := r47) rfl rfl (by omega) (fun h165 => ?_) (fun h165 => ?_)
                  · exfalso; omega
                  · show tt Zi d 150 (144, [some (.inr (.inl 30)), some (.inl y), some (.inl x), some (.inl r45), some (.inl r47), some (.inl r49), o_6], [.inr (.inl 30)], n, D, s19, p, c0) _
                    refine tt_k 1 (S' := (146, [some (.inr (.inl 30)), some (.inl y), some (.inl x), some (.inl r45), some (.inl r47), some (.inl r49), o_6], [.inl r47, .inr (.inl 30)], n, D, s19, p, c0)) rfl ?_
                    refine tz_ne (x := r47) rfl rfl (by omega) (fun h166 => ?_) (fun h166 => ?_)
                    · exfalso; omega
                    · show tt Zi d 150 (149, [some (.inr (.inl 30)), some (.inl y), some (.inl x), some (.inl r45), some (.inl r47), some (.inl r49), o_6], [.inr (.inl 30)], n, D, s19, p, c0) _
                      refine tt_k 1 (S' := (151, [some (.inr (.inl 30)), some (.inl y), some (.inl x), some (.inl r45), some (.inl r47), some (.inl r49), o_6], [.inl r49, .inr (.inl 30)], n, D, s19, p, c0)) rfl ?_
                      refine tz_ge (x := r49) rfl rfl (by omega) (fun h167 => ?_) (fun h167 => ?_)
                      · show tt Zi d 150 (158, [some (.inr (.inl 30)), some (.inl y), some (.inl x), some (.inl r45), some (.inl r47), some (.inl r49), o_6], [.inr (.inl 30)], n, D, s19, p, c0) _
                        refine tt_k 1 (S' := (159, [some (.inr (.inl 30)), some (.inl y), some (.inl x), some (.inl r45), some (.inl r47), some (.inl r49), o_6], [.inl 0, .inr (.inl 30)], n, D, s19, p, c0)) rfl ?_
                        exact K131 0  (by omega) (Or.inl ⟨h163, h164, h165, h166, h167, rfl⟩)
                      · show tt Zi d 150 (154, [some (.inr (.inl 30)), some (.inl y), some (.inl x), some (.inl r45), some (.inl r47), some (.inl r49), o_6], [.inr (.inl 30)], n, D, s19, p, c0) _
                        refine tt_k 2 (S' := (159, [some (.inr (.inl 30)), some (.inl y), some (.inl x), some (.inl r45), some (.inl r47), some (.inl r49), o_6], [.inl 1, .inr (.inl 30)], n, D, s19, p, c0)) rfl ?_
                        exact K131 1  (by omega) (Or.inr (⟨h163, h164, h165, h166, h167, rfl⟩))
            · show tt Zi d 150 (102, [some (.inr (.inl 30)), some (.inl y), some (.inl x), some (.inl r45), some (.inl r47), some (.inl r49), o_6], [], n, D, s19, p, c0) _
              refine tt_k 3 (S' := (107, [some (.inr (.inl 30)), some (.inl y), some (.inl x), some (.inl r45), some (.inl r47), some (.inl r49), o_6], [.inl (s19 3036), .inl x], n, D, s19, p, c0)) rfl ?_
              refine tz_eq (x := (s19 3036)) rfl rfl (by omega) (fun h168 => ?_) (fun h168 => ?_)
              · show tt Zi d 150 (119, [some (.inr (.inl 30)), some (.inl y), some (.inl x), some (.inl r45), some (.inl r47), some (.inl r49), o_6], [.inl x], n, D, s19, p, c0) _
                refine tt_k 3 (S' := (122, [some (.inr (.inl 30)), some (.inl y), some (.inl x), some (.inl r45), some (.inl r47), some (.inl r49), o_6], [.inl y, .inl x, .inr (.inl 30), .inl x], n, D, s19, p, c0)) rfl ?_
                refine tt_cl (by omega) rfl (k_readRun (Zi := Zi) (D := D) (s := s19) (p := p) (c := c0) (by omega) hS19 hC0 (64 * y + x) x y (by omega) (by omega) hc22 (show (s19 3036) = 0 ∧ (s19 3050) = 0 ∧ x < (s19 3037) by omega) (show (s19 3041) ≤ (s19 3017) by omega) hpl htb (show 0 ≤ (64 * y + x) ∧ (64 * y + x) + (s19 3037) - x ≤ 4096 by omega) (show 0 ≤ (s19 3035) ∧ (s19 3035) ≤ 22 by omega)) ?_
                rintro _ _ ⟨s169, c170, r171, rfl, rfl, hS169, hC170, f172, g173, b174, k175, k176, k177, k178, k179, k180, k181⟩
                have hc182 : mv s169 := mv_fr f172 (by decide) hc22
                show tt Zi d 150 (125, [some (.inr (.inl 30)), some (.inl y), some (.inl x), some (.inl r45), some (.inl r47), some (.inl r49), o_6], [.inl r171, .inl x], n, D, s169, p, c170) _
                replace k175 : (s169 3050) = 0 → pl s169 ((64 * y + x) + r171) c170 := k175
                replace k176 : (s169 3050) = 0 → tb ((s169 3037)) ((s169 3039)) ((s169 3017)) ((c170 44)) (x + r171) y := k176
                replace k177 : (s169 3050) = 0 → 1 ≤ r171 := k177
                replace k178 : x + r171 ≤ (s19 3037) := k178
                replace k179 : (s19 3049) ≤ (s169 3049) := k179
                replace k180 : (s19 3049) ≤ 32768 → (s169 3049) ≤ 32768 := k180
                replace k181 : 0 ≤ (s169 3035) ∧ (s169 3035) ≤ 22 := k181
                have b183 : 0 ≤ (s169 3050) ∧ (s169 3050) ≤ 8 := hS169 3050
                have b184 : 0 ≤ (s169 3037) ∧ (s169 3037) ≤ 64 := hS169 3037
                have b185 : 0 ≤ (s169 3039) ∧ (s169 3039) ≤ 8192 := hS169 3039
                have b186 : 0 ≤ (s169 3017) ∧ (s169 3017) ≤ 65535 := hS169 3017
                have b187 : 0 ≤ (s169 3049) ∧ (s169 3049) ≤ 32769 := hS169 3049
                have b188 : 0 ≤ (s169 3035) ∧ (s169 3035) ≤ 31 := hS169 3035
                have e189 : s169 3036 = (s19 3036) := (f172 3036 (by decide))
                have b190 : 0 ≤ (s169 3036) ∧ (s169 3036) ≤ 1 := hS169 3036
                have e191 : s169 3037 = (s19 3037) := (f172 3037 (by decide))
                have e192 : s169 3038 = (s19 3038) := (f172 3038 (by decide))
                have b193 : 0 ≤ (s169 3038) ∧ (s169 3038) ≤ 64 := hS169 3038
                have e194 : s169 3017 = (s19 3017) := (f172 3017 (by decide))
                have e195 : s169 3039 = (s19 3039) := (f172 3039 (by decide))
                refine tt_k 4 (S' := (23, [some (.inr (.inl 30)), some (.inl y), some (.inl (x + r171)), some (.inl r45), some (.inl r47), some (.inl r49), o_6], [], n, D, s169, p, c170)) rfl ?_
                have hxe : 64 * y + (x + r171) = 64 * y + x + r171 := by omega
                exact ih (x + r171) (some (.inl r45)) (some (.inl r47)) (some (.inl r49)) (o_6) s169 c170 (by omega) hS169 (fr_tr (fr_tr hF0 f20 (by decide)) f172 (by decide)) hC170 (frc_tr hG0 g173 (by decide)) (by rw [hxe]; exact k175) k176 (show s 3049 ≤ (s169 3049) by omega) (show s 3049 ≤ 32768 → (s169 3049) ≤ 32768 by omega) (show (x + r171) ≤ s 3037 by omega) k181 (show (if (s169 3050) = 0 then s 3037 - (x + r171) + 1 else 0).toNat < m by omega)
              · exfalso; omega

set_option maxRecDepth 100000 in
set_option maxHeartbeats 4000000 in
theorem k_planeR_L6 {Zi : Nat → Option (Nat × (Nat → Int))} {d n : Nat} {D : Nat → Nat × Nat} {s : Nat → Int} {p : Nat → Nat} {c : Nat → Nat → Int}  {Q : mi_Rs → mi_H → Prop} (hd : 7 ≤ d) (hS : bS s) (hC : bC D c) (hc_mv : mv s) (hq0 : s 3036 = 0)
  (hK : ∀ (y : Int) (o_2 : Option mi_V) (o_3 : Option mi_V) (o_4 : Option mi_V) (o_5 : Option mi_V) (o_6 : Option mi_V) (s0 : Nat → Int) (c0 : Nat → Nat → Int) (b_y : 0 ≤ y ∧ y ≤ 64) (hS0 : bS s0) (hF0 : fr s s0 [3035, 3041, 3042, 3043, 3044, 3045, 3046, 3049, 3050, 3051, 3052, 3053, 3054]) (hC0 : bC D c0) (hG0 : frc c c0 [36, 37, 38, 39, 44]) (i0 : s0 3050 = 0 → pl s0 (64 * y) c0) (i1 : s0 3050 = 0 → tb (s0 3037) (s0 3039) (s0 3017) (c0 44) 0 y) (i2 : s 3049 ≤ s0 3049) (i3 : s 3049 ≤ 32768 → s0 3049 ≤ 32768) (i4 : 0 ≤ s0 3035 ∧ s0 3035 ≤ 22), (True) → tt Zi d 150 (210, [some (.inr (.inl 30)), some (.inl y), o_2, o_3, o_4, o_5, o_6], [], n, D, s0, p, c0) Q) :
  ∀ (m : Nat) (y : Int) (o_2 : Option mi_V) (o_3 : Option mi_V) (o_4 : Option mi_V) (o_5 : Option mi_V) (o_6 : Option mi_V) (s0 : Nat → Int) (c0 : Nat → Nat → Int) (b_y : 0 ≤ y ∧ y ≤ 64) (hS0 : bS s0) (hF0 : fr s s0 [3035, 3041, 3042, 3043, 3044, 3045, 3046, 3049, 3050, 3051, 3052, 3053, 3054]) (hC0 : bC D c0) (hG0 : frc c c0 [36, 37, 38, 39, 44]) (i0 : s0 3050 = 0 → pl s0 (64 * y) c0) (i1 : s0 3050 = 0 → tb (s0 3037) (s0 3039) (s0 3017) (c0 44) 0 y) (i2 : s 3049 ≤ s0 3049) (i3 : s 3049 ≤ 32768 → s0 3049 ≤ 32768) (i4 : 0 ≤ s0 3035 ∧ s0 3035 ≤ 22), (if s0 3050 = 0 then s 3038 - y + 1 else 0).toNat < m → tt Zi d 150 (6, [some (.inr (.inl 30)), some (.inl y), o_2, o_3, o_4, o_5, o_6], [], n, D, s0, p, c0) Q := by
  intro m
  induction m with
  | zero => intro y o_2 o_3 o_4 o_5 o_6 s0 c0 b_y hS0 hF0 hC0 hG0 i0 i1 i2 i3 i4 hm; exact absurd hm (by omega)
  | succ m ih =>
    intro y o_2 o_3 o_4 o_5 o_6 s0 c0 b_y hS0 hF0 hC0 hG0 i0 i1 i2 i3 i4 hm
    have e1 : s0 3036 = s 3036 := hF0 3036 (by decide)
    have b2 : 0 ≤ (s0 3036) ∧ (s0 3036) ≤ 1 := hS0 3036
    have b3 : 0 ≤ (s 3036) ∧ (s 3036) ≤ 1 := hS 3036
    have e4 : s0 3037 = s 3037 := hF0 3037 (by decide)
    have b5 : 0 ≤ (s0 3037) ∧ (s0 3037) ≤ 64 := hS0 3037
    have b6 : 0 ≤ (s 3037) ∧ (s 3037) ≤ 64 := hS 3037
    have e7 : s0 3038 = s 3038 := hF0 3038 (by decide)
    have b8 : 0 ≤ (s0 3038) ∧ (s0 3038) ≤ 64 := hS0 3038
    have b9 : 0 ≤ (s 3038) ∧ (s 3038) ≤ 64 := hS 3038
    have e10 : s0 3017 = s 3017 := hF0 3017 (by decide)
    have b11 : 0 ≤ (s0 3017) ∧ (s0 3017) ≤ 65535 := hS0 3017
    have b12 : 0 ≤ (s 3017) ∧ (s 3017) ≤ 65535 := hS 3017
    have e13 : s0 3039 = s 3039 := hF0 3039 (by decide)
    have b14 : 0 ≤ (s0 3039) ∧ (s0 3039) ≤ 8192 := hS0 3039
    have b15 : 0 ≤ (s 3039) ∧ (s 3039) ≤ 8192 := hS 3039
    have hc0_mv : mv s0 := mv_fr hF0 (by decide) hc_mv
    refine tt_k 3 (S' := (11, [some (.inr (.inl 30)), some (.inl y), o_2, o_3, o_4, o_5, o_6], [.inl (s0 3038), .inl y], n, D, s0, p, c0)) rfl ?_
    refine tb_ge (x := y) (y := (s0 3038)) rfl rfl (by omega) (fun h16 => ?_) (fun h16 => ?_)
    · show tt Zi d 150 (210, [some (.inr (.inl 30)), some (.inl y), o_2, o_3, o_4, o_5, o_6], [], n, D, s0, p, c0) _
      exact hK y (o_2) (o_3) (o_4) (o_5) (o_6) s0 c0 (by omega) hS0 hF0 hC0 hG0 i0 i1 i2 i3 i4 trivial
    · show tt Zi d 150 (14, [some (.inr (.inl 30)), some (.inl y), o_2, o_3, o_4, o_5, o_6], [], n, D, s0, p, c0) _
      refine tt_k 2 (S' := (18, [some (.inr (.inl 30)), some (.inl y), o_2, o_3, o_4, o_5, o_6], [.inl (s0 3050)], n, D, s0, p, c0)) rfl ?_
      have b17 : 0 ≤ (s0 3050) ∧ (s0 3050) ≤ 8 := hS0 3050
      refine tz_ne (x := (s0 3050)) rfl rfl (by omega) (fun h18 => ?_) (fun h18 => ?_)
      · show tt Zi d 150 (210, [some (.inr (.inl 30)), some (.inl y), o_2, o_3, o_4, o_5, o_6], [], n, D, s0, p, c0) _
        exact hK y (o_2) (o_3) (o_4) (o_5) (o_6) s0 c0 (by omega) hS0 hF0 hC0 hG0 i0 i1 i2 i3 i4 trivial
      · show tt Zi d 150 (21, [some (.inr (.inl 30)), some (.inl y), o_2, o_3, o_4, o_5, o_6], [], n, D, s0, p, c0) _
        refine tt_k 2 (S' := (23, [some (.inr (.inl 30)), some (.inl y), some (.inl 0), o_3, o_4, o_5, o_6], [], n, D, s0, p, c0)) rfl ?_
        refine k_planeR_L23 (Zi := Zi) (D := D) (s := s0) (p := p) (c := c0) hd hS0 hC0  y (by omega) hc0_mv (show (s0 3036) = 0 by omega) (show y < (s0 3038) by omega) ?_ _ 0 (o_3) (o_4) (o_5) (o_6) s0 c0 (by omega) hS0 fr_rf hC0 frc_rf (by rw [show 64 * y + 0 = 64 * y by omega]; exact i0) i1 (Int.le_refl _) (fun h => h) (show 0 ≤ (s0 3037) by omega) i4 (Nat.lt_succ_self _)
        intro x19 x20 x21 x22 x23 s24 c25 b26 hS24 f27 hC25 g28 i29 i30 i31 i32 i33 i34 hx35
        show tt Zi d 150 (204, [some (.inr (.inl 30)), some (.inl y), some (.inl x19), x20, x21, x22, x23], [], n, D, s24, p, c25) _
        replace i30 : (s24 3050) = 0 → tb ((s24 3037)) ((s24 3039)) ((s24 3017)) ((c25 44)) x19 y := i30
        replace i31 : (s0 3049) ≤ (s24 3049) := i31
        replace i32 : (s0 3049) ≤ 32768 → (s24 3049) ≤ 32768 := i32
        replace i33 : x19 ≤ (s0 3037) := i33
        replace i34 : 0 ≤ (s24 3035) ∧ (s24 3035) ≤ 22 := i34
        replace hx35 : (s24 3050) = 0 → (s0 3037) ≤ x19 := hx35
        have hc36 : mv s24 := mv_fr f27 (by decide) hc0_mv
        have e37 : s24 3036 = (s0 3036) := (f27 3036 (by decide))
        have b38 : 0 ≤ (s24 3036) ∧ (s24 3036) ≤ 1 := hS24 3036
        have e39 : s24 3037 = (s0 3037) := (f27 3037 (by decide))
        have b40 : 0 ≤ (s24 3037) ∧ (s24 3037) ≤ 64 := hS24 3037
        have e41 : s24 3038 = (s0 3038) := (f27 3038 (by decide))
        have b42 : 0 ≤ (s24 3038) ∧ (s24 3038) ≤ 64 := hS24 3038
        have e43 : s24 3017 = (s0 3017) := (f27 3017 (by decide))
        have b44 : 0 ≤ (s24 3017) ∧ (s24 3017) ≤ 65535 := hS24 3017
        have e45 : s24 3039 = (s0 3039) := (f27 3039 (by decide))
        have b46 : 0 ≤ (s24 3039) ∧ (s24 3039) ≤ 8192 := hS24 3039
        refine tt_k 2 (S' := (6, [some (.inr (.inl 30)), some (.inl (y + 1)), some (.inl x19), x20, x21, x22, x23], [], n, D, s24, p, c25)) rfl ?_
        exact ih (y + 1) (some (.inl x19)) (x20) (x21) (x22) (x23) s24 c25 (by omega) hS24 (fr_tr hF0 f27 (by decide)) hC25 (frc_tr hG0 g28 (by decide)) (fun hz => pl_mono (i29 hz) (by omega)) (fun hz => tb_row (i30 hz) (by omega)) (show s 3049 ≤ (s24 3049) by omega) (show s 3049 ≤ 32768 → (s24 3049) ≤ 32768 by omega) i34 (show (if (s24 3050) = 0 then s 3038 - (y + 1) + 1 else 0).toNat < m by omega)
set_option maxRecDepth 100000 in
set_option maxHeartbeats 4000000 in
theorem k_planeR {Zi : Nat → Option (Nat × (Nat → Int))} {d n : Nat} {D : Nat → Nat × Nat} {s : Nat → Int} {p : Nat → Nat} {c : Nat → Nat → Int} (hd : 7 ≤ d) (hS : bS s) (hC : bC D c) (hp0 : mv s) (hp1 : s 3036 = 0 ∧ s 3050 = 0) : tt Zi d 150 (0, [some (.inr (.inl 30)), none, none, none, none, none, none], [], n, D, s, p, c) (fun R H => ∃ (s' : Nat → Int) (c' : Nat → Nat → Int), R = .inl none ∧ H = (n, D, s', p, c') ∧ bS s' ∧ bC D c' ∧ fr s s' [3035, 3041, 3042, 3043, 3044, 3045, 3046, 3049, 3050, 3051, 3052, 3053, 3054] ∧ frc c c' [36, 37, 38, 39, 40, 41, 42, 43, 44] ∧ (s 3049 ≤ s' 3049) ∧ (s 3049 ≤ 32768 → s' 3049 ≤ 32768)) := by
  have mvx := mv_fx hp0
  refine tt_k 1 (S' := (1, [some (.inr (.inl 30)), none, none, none, none, none, none], [.inr (.inl 30)], n, D, s, p, c)) rfl ?_
  have b1 : -2147483648 ≤ (s 3024) ∧ (s 3024) ≤ 2147483647 := hS 3024
  refine tt_cl (by omega) rfl (k_beginPlane (Zi := Zi) (D := D) (s := s) (p := p) (c := c) (by omega) hS hC (show 1 ≤ (s 3024) ∧ (s 3024) ≤ 65536 by omega)) ?_
  rintro _ _ ⟨s2, c3, rfl, rfl, hS2, hC3, f4, g5, k6, k7, k8, k9, k10⟩
  have hc11 : mv s2 := mv_fr f4 (by decide) hp0
  show tt Zi d 150 (4, [some (.inr (.inl 30)), none, none, none, none, none, none], [], n, D, s2, p, c3) _
  replace k6 : ∀ i : Nat, (i : Int) < 367 → (c3 36) i = max 2 (((s 3024) + 32) / 64) := k6
  replace k7 : ∀ i : Nat, (i : Int) < 367 → (c3 37) i = 0 := k7
  replace k8 : ∀ i : Nat, (i : Int) < 367 → (c3 38) i = 0 := k8
  replace k9 : ∀ i : Nat, (i : Int) < 367 → (c3 39) i = 1 := k9
  replace k10 : (s2 3035) = 0 := k10
  have b12 : 0 ≤ (s2 3035) ∧ (s2 3035) ≤ 31 := hS2 3035
  have e13 : s2 3050 = (s 3050) := (f4 3050 (by decide))
  have b14 : 0 ≤ (s2 3050) ∧ (s2 3050) ≤ 8 := hS2 3050
  have b15 : 0 ≤ (s 3050) ∧ (s 3050) ≤ 8 := hS 3050
  have e16 : s2 3036 = (s 3036) := (f4 3036 (by decide))
  have b17 : 0 ≤ (s2 3036) ∧ (s2 3036) ≤ 1 := hS2 3036
  have b18 : 0 ≤ (s 3036) ∧ (s 3036) ≤ 1 := hS 3036
  have e19 : s2 3037 = (s 3037) := (f4 3037 (by decide))
  have b20 : 0 ≤ (s2 3037) ∧ (s2 3037) ≤ 64 := hS2 3037
  have b21 : 0 ≤ (s 3037) ∧ (s 3037) ≤ 64 := hS 3037
  have e22 : s2 3038 = (s 3038) := (f4 3038 (by decide))
  have b23 : 0 ≤ (s2 3038) ∧ (s2 3038) ≤ 64 := hS2 3038
  have b24 : 0 ≤ (s 3038) ∧ (s 3038) ≤ 64 := hS 3038
  have e25 : s2 3017 = (s 3017) := (f4 3017 (by decide))
  have b26 : 0 ≤ (s2 3017) ∧ (s2 3017) ≤ 65535 := hS2 3017
  have b27 : 0 ≤ (s 3017) ∧ (s 3017) ≤ 65535 := hS 3017
  have e28 : s2 3039 = (s 3039) := (f4 3039 (by decide))
  have b29 : 0 ≤ (s2 3039) ∧ (s2 3039) ≤ 8192 := hS2 3039
  have b30 : 0 ≤ (s 3039) ∧ (s 3039) ≤ 8192 := hS 3039
  have e31 : s2 3049 = (s 3049) := (f4 3049 (by decide))
  have b32 : 0 ≤ (s2 3049) ∧ (s2 3049) ≤ 32769 := hS2 3049
  have b33 : 0 ≤ (s 3049) ∧ (s 3049) ≤ 32769 := hS 3049
  have hpb := pl_begin (s := s) (c := c3) hp0 k6 k7 k8 k9
  have aQ : s2 3025 = s 3025 := f4 3025 (by decide)
  clear k6 k7 k8 k9
  refine tt_k 2 (S' := (6, [some (.inr (.inl 30)), some (.inl 0), none, none, none, none, none], [], n, D, s2, p, c3)) rfl ?_
  refine k_planeR_L6 (Zi := Zi) (D := D) (s := s2) (p := p) (c := c3) hd hS2 hC3   hc11 (show (s2 3036) = 0 by omega) ?_ _ 0 (none) (none) (none) (none) (none) s2 c3 (by omega) hS2 fr_rf hC3 frc_rf (fun _ => pl_mono (pl_eq aQ rfl rfl rfl rfl hpb.1) (by omega)) (fun _ => tb_0) (Int.le_refl _) (fun h => h) (show 0 ≤ (s2 3035) ∧ (s2 3035) ≤ 22 by omega) (Nat.lt_succ_self _)
  intro x34 x35 x36 x37 x38 x39 s40 c41 b42 hS40 f43 hC41 g44 i45 i46 i47 i48 i49 hx50
  show tt Zi d 150 (210, [some (.inr (.inl 30)), some (.inl x34), x35, x36, x37, x38, x39], [], n, D, s40, p, c41) _
  replace i46 : (s40 3050) = 0 → tb ((s40 3037)) ((s40 3039)) ((s40 3017)) ((c41 44)) 0 x34 := i46
  replace i47 : (s2 3049) ≤ (s40 3049) := i47
  replace i48 : (s2 3049) ≤ 32768 → (s40 3049) ≤ 32768 := i48
  replace i49 : 0 ≤ (s40 3035) ∧ (s40 3035) ≤ 22 := i49
  have hc51 : mv s40 := mv_fr f43 (by decide) hc11
  have e52 : s40 3036 = (s2 3036) := (f43 3036 (by decide))
  have b53 : 0 ≤ (s40 3036) ∧ (s40 3036) ≤ 1 := hS40 3036
  have e54 : s40 3037 = (s2 3037) := (f43 3037 (by decide))
  have b55 : 0 ≤ (s40 3037) ∧ (s40 3037) ≤ 64 := hS40 3037
  have e56 : s40 3038 = (s2 3038) := (f43 3038 (by decide))
  have b57 : 0 ≤ (s40 3038) ∧ (s40 3038) ≤ 64 := hS40 3038
  have e58 : s40 3017 = (s2 3017) := (f43 3017 (by decide))
  have b59 : 0 ≤ (s40 3017) ∧ (s40 3017) ≤ 65535 := hS40 3017
  have e60 : s40 3039 = (s2 3039) := (f43 3039 (by decide))
  have b61 : 0 ≤ (s40 3039) ∧ (s40 3039) ≤ 8192 := hS40 3039
  refine tt_k 2 (S' := (214, [some (.inr (.inl 30)), some (.inl x34), x35, x36, x37, x38, x39], [.inl (s40 3050)], n, D, s40, p, c41)) rfl ?_
  have b62 : 0 ≤ (s40 3050) ∧ (s40 3050) ≤ 8 := hS40 3050
  refine tz_ne (x := (s40 3050)) rfl rfl (by omega) (fun h63 => ?_) (fun h63 => ?_)
  · show tt Zi d 150 (221, [some (.inr (.inl 30)), some (.inl x34), x35, x36, x37, x38, x39], [], n, D, s40, p, c41) _
    exact tt_rtv rfl rfl ⟨s40, c41, rfl, rfl, hS40, hC41, (fr_tr (fr_tr fr_rf f4 (by decide)) f43 (by decide)), (frc_tr (frc_tr frc_rf g5 (by decide)) g44 (by decide)), by show s 3049 ≤ (s40 3049); omega, by show s 3049 ≤ 32768 → (s40 3049) ≤ 32768; omega⟩
  · show tt Zi d 150 (217, [some (.inr (.inl 30)), some (.inl x34), x35, x36, x37, x38, x39], [], n, D, s40, p, c41) _
    refine tt_k 1 (S' := (218, [some (.inr (.inl 30)), some (.inl x34), x35, x36, x37, x38, x39], [.inr (.inl 30)], n, D, s40, p, c41)) rfl ?_
    refine tt_cl (by omega) rfl (k_keep (Zi := Zi) (D := D) (s := s40) (p := p) (c := c41) (by omega) hS40 hC41 ) ?_
    rintro _ _ ⟨c64, rfl, rfl, hC64, g65⟩
    show tt Zi d 150 (221, [some (.inr (.inl 30)), some (.inl x34), x35, x36, x37, x38, x39], [], n, D, s40, p, c64) _
    exact tt_rtv rfl rfl ⟨s40, c64, rfl, rfl, hS40, hC64, (fr_tr (fr_tr fr_rf f4 (by decide)) f43 (by decide)), (frc_tr (frc_tr (frc_tr frc_rf g5 (by decide)) g44 (by decide)) g65 (by decide)), by show s 3049 ≤ (s40 3049); omega, by show s 3049 ≤ 32768 → (s40 3049) ≤ 32768; omega⟩
