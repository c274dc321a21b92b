/-! the reference tells a run -/
set_option maxRecDepth 100000 in
set_option maxHeartbeats 4000000 in
theorem k_tellT_L8 {Zi : Nat → Option (Nat × (Nat → Int))} {d n : Nat} {D : Nat → Nat × Nat} {s : Nat → Int} {p : Nat → Nat} {c : Nat → Nat → Int} {o_5 : Option mi_V} {Q : mi_Rs → mi_H → Prop} (hd : 5 ≤ d) (hS : bS s) (hC : bC D c) (x : Int) (y : Int) (run : Int) (b_x : 0 ≤ x ∧ x ≤ 63) (b_y : 0 ≤ y ∧ y ≤ 63) (b_run : 0 ≤ run ∧ run ≤ 65535)
  (hK : ∀ (n_ : Int) (b_n_ : 0 ≤ n_ ∧ n_ ≤ 64) (i0 : x + n_ ≤ s 3037), x + n_ = s 3037 ∨ (s 3018 < c 31 (s 3039 + 64 * y + x + n_).toNat - run ∨ s 3018 < run - c 31 (s 3039 + 64 * y + x + n_).toNat) → tt Zi d 156 (56, [some (.inr (.inl 30)), some (.inl x), some (.inl y), some (.inl run), some (.inl n_), o_5], [], n, D, s, p, c) Q) :
  ∀ (m : Nat) (n_ : Int) (b_n_ : 0 ≤ n_ ∧ n_ ≤ 64) (i0 : x + n_ ≤ s 3037), (s 3037 - x - n_).toNat < m → tt Zi d 156 (8, [some (.inr (.inl 30)), some (.inl x), some (.inl y), some (.inl run), some (.inl n_), o_5], [], n, D, s, p, c) Q := by
  intro m
  induction m with
  | zero => intro n_ b_n_ i0 hm; exact absurd hm (by omega)
  | succ m ih =>
    intro n_ b_n_ i0 hm
    refine tt_k 5 (S' := (16, [some (.inr (.inl 30)), some (.inl x), some (.inl y), some (.inl run), some (.inl n_), o_5], [.inl (s 3037), .inl (x + n_)], n, D, s, p, c)) rfl ?_
    have b1 : 0 ≤ (s 3037) ∧ (s 3037) ≤ 64 := hS 3037
    refine tb_ge (x := (x + n_)) (y := (s 3037)) rfl rfl (by omega) (fun h2 => ?_) (fun h2 => ?_)
    · show tt Zi d 156 (56, [some (.inr (.inl 30)), some (.inl x), some (.inl y), some (.inl run), some (.inl n_), o_5], [], n, D, s, p, c) _
      exact hK n_ (by omega) (show x + n_ ≤ s 3037 by omega) (by omega)
    · show tt Zi d 156 (19, [some (.inr (.inl 30)), some (.inl x), some (.inl y), some (.inl run), some (.inl n_), o_5], [], n, D, s, p, c) _
      refine tt_k 12 (S' := (37, [some (.inr (.inl 30)), some (.inl x), some (.inl y), some (.inl run), some (.inl n_), o_5], [.inl (((((s 3039) + (64 * y)) + x) + n_)), .inr (.inl 31)], n, D, s, p, c)) rfl ?_
      have b3 : 0 ≤ (s 3039) ∧ (s 3039) ≤ 8192 := hS 3039
      refine tt_ildv (i := ((((s 3039) + (64 * y)) + x) + n_)) (v := (c 31 (((((s 3039) + (64 * y)) + x) + n_)).toNat)) rfl rfl (by omega) rfl ?_
      show tt Zi d 156 (38, [some (.inr (.inl 30)), some (.inl x), some (.inl y), some (.inl run), some (.inl n_), o_5], [.inl ((c 31 (((((s 3039) + (64 * y)) + x) + n_)).toNat))], n, D, s, p, c) _
      have b4 : 0 ≤ (c 31 (((((s 3039) + (64 * y)) + x) + n_)).toNat) ∧ (c 31 (((((s 3039) + (64 * y)) + x) + n_)).toNat) ≤ 65535 := hC 31 _
      refine tt_k 2 (S' := (40, [some (.inr (.inl 30)), some (.inl x), some (.inl y), some (.inl run), some (.inl n_), o_5], [.inl (((c 31 (((((s 3039) + (64 * y)) + x) + n_)).toNat) - run))], n, D, s, p, c)) rfl ?_
      refine tt_cl (by omega) rfl (k_sizeOf (Zi := Zi) (D := D) (s := s) (p := p) (c := c) (by omega) hS hC (((c 31 (((((s 3039) + (64 * y)) + x) + n_)).toNat) - run)) (by omega)) ?_
      rintro _ _ ⟨r5, rfl, rfl, b6, k7⟩
      show tt Zi d 156 (43, [some (.inr (.inl 30)), some (.inl x), some (.inl y), some (.inl run), some (.inl n_), o_5], [.inl r5], n, D, s, p, c) _
      replace k7 : r5 = if 0 ≤ (((c 31 (((((s 3039) + (64 * y)) + x) + n_)).toNat) - run)) then (((c 31 (((((s 3039) + (64 * y)) + x) + n_)).toNat) - run)) else -(((c 31 (((((s 3039) + (64 * y)) + x) + n_)).toNat) - run)) := k7
      subst k7
      show tt Zi d 156 (43, [some (.inr (.inl 30)), some (.inl x), some (.inl y), some (.inl run), some (.inl n_), o_5], [.inl ((if 0 ≤ (((c 31 (((((s 3039) + (64 * y)) + x) + n_)).toNat) - run)) then (((c 31 (((((s 3039) + (64 * y)) + x) + n_)).toNat) - run)) else -(((c 31 (((((s 3039) + (64 * y)) + x) + n_)).toNat) - run))))], n, D, s, p, c) _
      refine tt_k 2 (S' := (47, [some (.inr (.inl 30)), some (.inl x), some (.inl y), some (.inl run), some (.inl n_), o_5], [.inl (s 3018), .inl ((if 0 ≤ (((c 31 (((((s 3039) + (64 * y)) + x) + n_)).toNat) - run)) then (((c 31 (((((s 3039) + (64 * y)) + x) + n_)).toNat) - run)) else -(((c 31 (((((s 3039) + (64 * y)) + x) + n_)).toNat) - run))))], n, D, s, p, c)) rfl ?_
      have b8 : -2147483648 ≤ (s 3018) ∧ (s 3018) ≤ 2147483647 := hS 3018
      refine tb_gt (x := (if 0 ≤ (((c 31 (((((s 3039) + (64 * y)) + x) + n_)).toNat) - run)) then (((c 31 (((((s 3039) + (64 * y)) + x) + n_)).toNat) - run)) else -(((c 31 (((((s 3039) + (64 * y)) + x) + n_)).toNat) - run)))) (y := (s 3018)) rfl rfl (by omega) (fun h9 => ?_) (fun h9 => ?_)
      · show tt Zi d 156 (56, [some (.inr (.inl 30)), some (.inl x), some (.inl y), some (.inl run), some (.inl n_), o_5], [], n, D, s, p, c) _
        exact hK n_ (by omega) (show x + n_ ≤ s 3037 by omega) (by omega)
      · show tt Zi d 156 (50, [some (.inr (.inl 30)), some (.inl x), some (.inl y), some (.inl run), some (.inl n_), o_5], [], n, D, s, p, c) _
        refine tt_k 2 (S' := (8, [some (.inr (.inl 30)), some (.inl x), some (.inl y), some (.inl run), some (.inl (n_ + 1)), o_5], [], n, D, s, p, c)) rfl ?_
        exact ih (n_ + 1)  (by omega) (show x + (n_ + 1) ≤ s 3037 by omega) (show (s 3037 - x - (n_ + 1)).toNat < m by omega)

set_option maxRecDepth 100000 in
set_option maxHeartbeats 4000000 in
theorem k_tellT_L69 {Zi : Nat → Option (Nat × (Nat → Int))} {d n : Nat} {D : Nat → Nat × Nat} {s : Nat → Int} {p : Nat → Nat} {c : Nat → Nat → Int}  {Q : mi_Rs → mi_H → Prop} (hd : 5 ≤ d) (hS : bS s) (hC : bC D c) (t : Int) (B : Int) (C : Int) (P0 : Int) (x : Int) (y : Int) (run : Int) (n_ : Int) (b_x : 0 ≤ x ∧ x ≤ 63) (b_y : 0 ≤ y ∧ y ≤ 63) (b_run : 0 ≤ run ∧ run ≤ 65535) (b_n_ : 0 ≤ n_ ∧ n_ ≤ 64) (hq0 : 1150976 ≤ C ∧ 0 ≤ P0) (hq1 : bt C B (t + n_) ≤ 17179869184)
  (hK : ∀ (rest : Int) (s0 : Nat → Int) (c0 : Nat → Nat → Int) (b_rest : 0 ≤ rest ∧ rest ≤ 64) (hS0 : bS s0) (hF0 : fr s s0 [3016, 3035, 3047, 3048]) (hC0 : bC D c0) (hG0 : frc c c0 [35]) (i0 : w_ok (s0 3047) (s0 3048)) (i1 : 4096 * (w_u (s0 3016) (s0 3047) (s0 3048) + psi (s0 3035)) + P0 ≤ bt C B (t + n_ - rest)) (i2 : 0 ≤ s0 3035 ∧ s0 3035 ≤ 22) (i3 : s 3016 ≤ s0 3016) (i4 : rest ≤ n_), True → tt Zi d 156 (114, [some (.inr (.inl 30)), some (.inl x), some (.inl y), some (.inl run), some (.inl n_), some (.inl rest)], [], n, D, s0, p, c0) Q) :
  ∀ (m : Nat) (rest : Int) (s0 : Nat → Int) (c0 : Nat → Nat → Int) (b_rest : 0 ≤ rest ∧ rest ≤ 64) (hS0 : bS s0) (hF0 : fr s s0 [3016, 3035, 3047, 3048]) (hC0 : bC D c0) (hG0 : frc c c0 [35]) (i0 : w_ok (s0 3047) (s0 3048)) (i1 : 4096 * (w_u (s0 3016) (s0 3047) (s0 3048) + psi (s0 3035)) + P0 ≤ bt C B (t + n_ - rest)) (i2 : 0 ≤ s0 3035 ∧ s0 3035 ≤ 22) (i3 : s 3016 ≤ s0 3016) (i4 : rest ≤ n_), rest.toNat < m → tt Zi d 156 (69, [some (.inr (.inl 30)), some (.inl x), some (.inl y), some (.inl run), some (.inl n_), some (.inl rest)], [], n, D, s0, p, c0) Q := by
  intro m
  induction m with
  | zero => intro rest s0 c0 b_rest hS0 hF0 hC0 hG0 i0 i1 i2 i3 i4 hm; exact absurd hm (by omega)
  | succ m ih =>
    intro rest s0 c0 b_rest hS0 hF0 hC0 hG0 i0 i1 i2 i3 i4 hm
    have e1 : s0 3050 = s 3050 := hF0 3050 (by decide)
    have b2 : 0 ≤ (s0 3050) ∧ (s0 3050) ≤ 8 := hS0 3050
    have b3 : 0 ≤ (s 3050) ∧ (s 3050) ≤ 8 := hS 3050
    have e4 : s0 3039 = s 3039 := hF0 3039 (by decide)
    have b5 : 0 ≤ (s0 3039) ∧ (s0 3039) ≤ 8192 := hS0 3039
    have b6 : 0 ≤ (s 3039) ∧ (s 3039) ≤ 8192 := hS 3039
    have e7 : s0 3017 = s 3017 := hF0 3017 (by decide)
    have b8 : 0 ≤ (s0 3017) ∧ (s0 3017) ≤ 65535 := hS0 3017
    have b9 : 0 ≤ (s 3017) ∧ (s 3017) ≤ 65535 := hS 3017
    have e10 : s0 3018 = s 3018 := hF0 3018 (by decide)
    have b11 : -2147483648 ≤ (s0 3018) ∧ (s0 3018) ≤ 2147483647 := hS0 3018
    have b12 : -2147483648 ≤ (s 3018) ∧ (s 3018) ≤ 2147483647 := hS 3018
    have e13 : s0 3037 = s 3037 := hF0 3037 (by decide)
    have b14 : 0 ≤ (s0 3037) ∧ (s0 3037) ≤ 64 := hS0 3037
    have b15 : 0 ≤ (s 3037) ∧ (s 3037) ≤ 64 := hS 3037
    have e16 : s0 3036 = s 3036 := hF0 3036 (by decide)
    have b17 : 0 ≤ (s0 3036) ∧ (s0 3036) ≤ 1 := hS0 3036
    have b18 : 0 ≤ (s 3036) ∧ (s 3036) ≤ 1 := hS 3036
    have hps := psi_0 (p := s0 3035)
    refine tt_k 3 (S' := (73, [some (.inr (.inl 30)), some (.inl x), some (.inl y), some (.inl run), some (.inl n_), some (.inl rest)], [.inr (.inl 30), .inl 1, .inl rest], n, D, s0, p, c0)) rfl ?_
    have b19 : 0 ≤ (s0 3035) ∧ (s0 3035) ≤ 31 := hS0 3035
    refine tt_cl (by omega) rfl (k_piecesJ (Zi := Zi) (D := D) (s := s0) (p := p) (c := c0) (by omega) hS0 hC0 (show 0 ≤ (s0 3035) ∧ (s0 3035) ≤ 22 by omega)) ?_
    rintro _ _ ⟨r20, rfl, rfl, b21, k22⟩
    show tt Zi d 156 (76, [some (.inr (.inl 30)), some (.inl x), some (.inl y), some (.inl run), some (.inl n_), some (.inl rest)], [.inl r20, .inl 1, .inl rest], n, D, s0, p, c0) _
    replace k22 : r20 = jj ((s0 3035)) := k22
    have h23 : r20 = 7 → mi_shl 1 r20 = 128 := by intro hq; rw [hq]; exact shl7
    refine tt_k 1 (S' := (77, [some (.inr (.inl 30)), some (.inl x), some (.inl y), some (.inl run), some (.inl n_), some (.inl rest)], [.inl (mi_shl 1 r20), .inl rest], n, D, s0, p, c0)) rfl ?_
    have e24 : 1 ≤ (mi_shl 1 r20) ∧ (mi_shl 1 r20) ≤ 128 := mi_shl1b 0 7 (by omega) (by omega) (by decide)
    refine tb_lt (x := rest) (y := (mi_shl 1 r20)) rfl rfl (by omega) (fun h25 => ?_) (fun h25 => ?_)
    · show tt Zi d 156 (114, [some (.inr (.inl 30)), some (.inl x), some (.inl y), some (.inl run), some (.inl n_), some (.inl rest)], [], n, D, s0, p, c0) _
      exact hK rest s0 c0 (by omega) hS0 hF0 hC0 hG0 i0 i1 i2 i3 i4 trivial
    · show tt Zi d 156 (80, [some (.inr (.inl 30)), some (.inl x), some (.inl y), some (.inl run), some (.inl n_), some (.inl rest)], [], n, D, s0, p, c0) _
      refine tt_k 2 (S' := (82, [some (.inr (.inl 30)), some (.inl x), some (.inl y), some (.inl run), some (.inl n_), some (.inl rest)], [.inl 1, .inr (.inl 30)], n, D, s0, p, c0)) rfl ?_
      have hb0 := bt_ge (C := C) (B := B) (u := t + n_ - rest) (v := t + n_) (by omega) (by omega)
      have b26 : 0 ≤ (s0 3047) ∧ (s0 3047) ≤ 255 := hS0 3047
      have b27 : 0 ≤ (s0 3048) ∧ (s0 3048) ≤ 8 := hS0 3048
      have b28 : 0 ≤ (s0 3016) ∧ (s0 3016) ≤ 65536 := hS0 3016
      refine tt_cl (by omega) rfl (k_putBit (Zi := Zi) (D := D) (s := s0) (p := p) (c := c0) (by omega) hS0 hC0 1 (by omega) i0 (show w_u ((s0 3016)) ((s0 3047)) ((s0 3048)) + 8 + 1 ≤ 4194304 by omega)) ?_
      rintro _ _ ⟨s29, c30, rfl, rfl, hS29, hC30, f31, g32, k33, k34, k35⟩
      show tt Zi d 156 (85, [some (.inr (.inl 30)), some (.inl x), some (.inl y), some (.inl run), some (.inl n_), some (.inl rest)], [], n, D, s29, p, c30) _
      replace k33 : w_ok ((s29 3047)) ((s29 3048)) := k33
      replace k34 : w_u ((s29 3016)) ((s29 3047)) ((s29 3048)) ≤ w_u ((s0 3016)) ((s0 3047)) ((s0 3048)) + 8 + 1 := k34
      replace k35 : (s0 3016) ≤ (s29 3016) := k35
      have b36 : 0 ≤ (s29 3047) ∧ (s29 3047) ≤ 255 := hS29 3047
      have b37 : 0 ≤ (s29 3048) ∧ (s29 3048) ≤ 8 := hS29 3048
      have b38 : 0 ≤ (s29 3016) ∧ (s29 3016) ≤ 65536 := hS29 3016
      have e39 : s29 3050 = (s0 3050) := (f31 3050 (by decide))
      have b40 : 0 ≤ (s29 3050) ∧ (s29 3050) ≤ 8 := hS29 3050
      have e41 : s29 3039 = (s0 3039) := (f31 3039 (by decide))
      have b42 : 0 ≤ (s29 3039) ∧ (s29 3039) ≤ 8192 := hS29 3039
      have e43 : s29 3017 = (s0 3017) := (f31 3017 (by decide))
      have b44 : 0 ≤ (s29 3017) ∧ (s29 3017) ≤ 65535 := hS29 3017
      have e45 : s29 3018 = (s0 3018) := (f31 3018 (by decide))
      have b46 : -2147483648 ≤ (s29 3018) ∧ (s29 3018) ≤ 2147483647 := hS29 3018
      have e47 : s29 3037 = (s0 3037) := (f31 3037 (by decide))
      have b48 : 0 ≤ (s29 3037) ∧ (s29 3037) ≤ 64 := hS29 3037
      have e49 : s29 3035 = (s0 3035) := (f31 3035 (by decide))
      have b50 : 0 ≤ (s29 3035) ∧ (s29 3035) ≤ 31 := hS29 3035
      have e51 : s29 3036 = (s0 3036) := (f31 3036 (by decide))
      have b52 : 0 ≤ (s29 3036) ∧ (s29 3036) ≤ 1 := hS29 3036
      refine tt_k 3 (S' := (89, [some (.inr (.inl 30)), some (.inl x), some (.inl y), some (.inl run), some (.inl n_), some (.inl rest)], [.inr (.inl 30), .inl 1, .inl rest], n, D, s29, p, c30)) rfl ?_
      refine tt_cl (by omega) rfl (k_piecesJ (Zi := Zi) (D := D) (s := s29) (p := p) (c := c30) (by omega) hS29 hC30 (show 0 ≤ (s29 3035) ∧ (s29 3035) ≤ 22 by omega)) ?_
      rintro _ _ ⟨r53, rfl, rfl, b54, k55⟩
      show tt Zi d 156 (92, [some (.inr (.inl 30)), some (.inl x), some (.inl y), some (.inl run), some (.inl n_), some (.inl rest)], [.inl r53, .inl 1, .inl rest], n, D, s29, p, c30) _
      replace k55 : r53 = jj ((s29 3035)) := k55
      have hr2 : mi_shl 1 r53 = mi_shl 1 r20 := congrArg (mi_shl 1) (by have e := congrArg jj (show (s29 3035) = s0 3035 by omega); omega)
      have h56 : r53 = 7 → mi_shl 1 r53 = 128 := by intro hq; rw [hq]; exact shl7
      refine tt_k 9 (S' := (105, [some (.inr (.inl 30)), some (.inl x), some (.inl y), some (.inl run), some (.inl n_), some (.inl (rest - (mi_shl 1 r53)))], [.inl ((s29 3035) + 1), .inl 31, .inr (.inl 30)], n, D, s29, p, c30)) rfl ?_
      refine tt_cl (by omega) rfl (k_less (Zi := Zi) (D := D) (s := s29) (p := p) (c := c30) (by omega) hS29 hC30 31 ((s29 3035) + 1) (by omega) (by omega)) ?_
      rintro _ _ ⟨r57, rfl, rfl, b58, k59⟩
      show tt Zi d 156 (108, [some (.inr (.inl 30)), some (.inl x), some (.inl y), some (.inl run), some (.inl n_), some (.inl (rest - (mi_shl 1 r53)))], [.inl r57, .inr (.inl 30)], n, D, s29, p, c30) _
      replace k59 : r57 = min 31 ((s29 3035) + 1) := k59
      subst k59
      show tt Zi d 156 (108, [some (.inr (.inl 30)), some (.inl x), some (.inl y), some (.inl run), some (.inl n_), some (.inl (rest - (mi_shl 1 r53)))], [.inl ((min 31 ((s29 3035) + 1))), .inr (.inl 30)], n, D, s29, p, c30) _
      show tt Zi d 156 (108, [some (.inr (.inl 30)), some (.inl x), some (.inl y), some (.inl run), some (.inl n_), some (.inl (rest - (mi_shl 1 r53)))], [.inl ((min 31 ((s29 3035) + 1))), .inr (.inl 30)], n, D, s29, p, c30) _
      have hj6 := jj_le6 (p := s0 3035) (by omega) (by omega)
      rw [show min 31 ((s29 3035) + 1) = (s29 3035) + 1 by omega]
      show tt Zi d 156 (108, [some (.inr (.inl 30)), some (.inl x), some (.inl y), some (.inl run), some (.inl n_), some (.inl (rest - (mi_shl 1 r53)))], [.inl ((s29 3035) + 1), .inr (.inl 30)], n, D, s29, p, c30) _
      refine tt_k 2 (S' := (69, [some (.inr (.inl 30)), some (.inl x), some (.inl y), some (.inl run), some (.inl n_), some (.inl (rest - (mi_shl 1 r53)))], [], n, D, (us s29 3035 ((s29 3035) + 1)), p, c30)) rfl ?_
      have e60 : 1 ≤ (mi_shl 1 r53) ∧ (mi_shl 1 r53) ≤ 128 := mi_shl1b 0 7 (by omega) (by omega) (by decide)
      have hb1 := bt_ge (C := C) (B := B) (u := t + n_ - rest) (v := t + n_ - (rest - (mi_shl 1 r53))) (by omega) (by omega)
      have hps1 := psi_s (p := (s29 3035)) (by omega)
      have hjj1 := jj_bd (p := (s29 3035) + 1) (by omega)
      have hpe : psi (s29 3035) = psi (s0 3035) := congrArg psi (by omega)
      exact ih (rest - (mi_shl 1 r53)) (us s29 3035 ((s29 3035) + 1)) c30 (by omega) (bS_us hS29 (show 0 ≤ ((s29 3035) + 1) ∧ ((s29 3035) + 1) ≤ 31 by omega)) (fr_us (by decide) (fr_tr hF0 f31 (by decide))) hC30 (frc_tr hG0 g32 (by decide)) k33 (show 4096 * (w_u ((s29 3016)) ((s29 3047)) ((s29 3048)) + psi (((s29 3035) + 1))) + P0 ≤ bt C B (t + n_ - (rest - (mi_shl 1 r53))) by omega) (show 0 ≤ ((s29 3035) + 1) ∧ ((s29 3035) + 1) ≤ 22 by omega) (show s 3016 ≤ (s29 3016) by omega) (show (rest - (mi_shl 1 r53)) ≤ n_ by omega) (show (rest - (mi_shl 1 r53)).toNat < m by omega)
set_option maxRecDepth 100000 in
set_option maxHeartbeats 4000000 in
theorem k_tellT {Zi : Nat → Option (Nat × (Nat → Int))} {d n : Nat} {D : Nat → Nat × Nat} {s : Nat → Int} {p : Nat → Nat} {c : Nat → Nat → Int} (hd : 5 ≤ d) (hS : bS s) (hC : bC D c) (t : Int) (B : Int) (x : Int) (y : Int) (b_x : 0 ≤ x ∧ x ≤ 63) (b_y : 0 ≤ y ∧ y ≤ 63) (hp0 : mv s) (hp1 : s 3036 = 1 ∧ s 3050 = 0 ∧ x < s 3037 ∧ y < s 3038) (hp2 : s 3041 ≤ s 3017) (hp3 : pl s t c) (hp4 : 0 ≤ t ∧ t + s 3037 - x ≤ 4096) (hp5 : w_ok (s 3047) (s 3048)) (hp6 : 4096 * (w_u (s 3016) (s 3047) (s 3048) + psi (s 3035)) + pot s c ≤ bt (cb s) B (t)) (hp7 : bt (cb s) B 4096 ≤ 17179869184) (hp8 : ∀ xx yy : Int, 0 ≤ xx → xx < s 3037 → 0 ≤ yy → yy < s 3038 → c 31 (s 3039 + 64 * yy + xx).toNat ≤ s 3017) (hp9 : tb (s 3037) (s 3039) (s 3017) (c 44) x y) (hp10 : 0 ≤ s 3035 ∧ s 3035 ≤ 22) : tt Zi d 156 (0, [some (.inr (.inl 30)), some (.inl x), some (.inl y), none, none, none], [], n, D, s, p, c) (fun R H => ∃ (s' : Nat → Int) (c' : Nat → Nat → Int) (r : Int), R = .inl (some (.inl r)) ∧ H = (n, D, s', p, c') ∧ bS s' ∧ bC D c' ∧ fr s s' [3016, 3035, 3041, 3042, 3043, 3044, 3045, 3046, 3047, 3048] ∧ frc c c' [35, 36, 37, 39, 44] ∧ (1 ≤ r ∧ r ≤ 64) ∧ (w_ok (s' 3047) (s' 3048)) ∧ (4096 * (w_u (s' 3016) (s' 3047) (s' 3048) + psi (s' 3035)) + pot s' c' ≤ bt (cb s) B (t + r)) ∧ (pl s' (t + r) c') ∧ (tb (s' 3037) (s' 3039) (s' 3017) (c' 44) (x + r) y) ∧ (s 3016 ≤ s' 3016) ∧ (0 ≤ s' 3035 ∧ s' 3035 ≤ 22) ∧ (x + r ≤ s 3037)) := by
  have mvx := mv_fx hp0
  have hcb := cb_bd (s := s)
  have b1 : 0 ≤ (s 3037) ∧ (s 3037) ≤ 64 := hS 3037
  have b2 : 0 ≤ (s 3039) ∧ (s 3039) ≤ 8192 := hS 3039
  have b3 : 0 ≤ (s 3041) ∧ (s 3041) ≤ 65535 := hS 3041
  have b4 : 0 ≤ (s 3017) ∧ (s 3017) ≤ 65535 := hS 3017
  refine tt_k 5 (S' := (8, [some (.inr (.inl 30)), some (.inl x), some (.inl y), some (.inl (s 3041)), some (.inl 0), none], [], n, D, s, p, c)) rfl ?_
  refine k_tellT_L8 (Zi := Zi) (D := D) (s := s) (p := p) (c := c) hd hS hC  x y (s 3041) (by omega) (by omega) (by omega) ?_ _ 0  (by omega) (show x + 0 ≤ (s 3037) by omega) (Nat.lt_succ_self _)
  intro x5 b6 i7 hx8
  show tt Zi d 156 (56, [some (.inr (.inl 30)), some (.inl x), some (.inl y), some (.inl (s 3041)), some (.inl x5), none], [], n, D, s, p, c) _
  refine tt_k 5 (S' := (62, [some (.inr (.inl 30)), some (.inl x), some (.inl y), some (.inl (s 3041)), some (.inl x5), none], [.inl (s 3041), .inl x5, .inl y, .inl x, .inr (.inl 30)], n, D, s, p, c)) rfl ?_
  refine tt_cl (by omega) rfl (k_fill (Zi := Zi) (D := D) (s := s) (p := p) (c := c) (by omega) hS hC x y x5 (s 3041) (by omega) (by omega) (by omega) (by omega) (show x + x5 ≤ 64 by omega)) ?_
  rintro _ _ ⟨c9, rfl, rfl, hC9, g10, k11, k12⟩
  show tt Zi d 156 (65, [some (.inr (.inl 30)), some (.inl x), some (.inl y), some (.inl (s 3041)), some (.inl x5), none], [], n, D, s, p, c9) _
  replace k11 : ∀ i : Nat, (i : Int) < (s 3039) + 64 * y + x ∨ (s 3039) + 64 * y + x + x5 ≤ i → (c9 44) i = (c 44) i := k11
  replace k12 : ∀ i : Nat, (s 3039) + 64 * y + x ≤ i → (i : Int) < (s 3039) + 64 * y + x + x5 → (c9 44) i = (s 3041) := k12
  have hTf : tb (s 3037) (s 3039) (s 3017) (c9 44) (x + x5) y := tb_fill hp9 (by omega) (by omega) (by omega) (by omega) (by omega) (by omega) (by omega) k11 k12
  clear k11 k12
  refine tt_k 2 (S' := (69, [some (.inr (.inl 30)), some (.inl x), some (.inl y), some (.inl (s 3041)), some (.inl x5), some (.inl x5)], [], n, D, s, p, c9)) rfl ?_
  have hp0t := pot_0 (s := s) (c := c)
  have hbl0 := bt_mono (C := cb s) (B := B) (u := t + x5) (v := 4096) (by omega) (by omega)
  refine k_tellT_L69 (Zi := Zi) (D := D) (s := s) (p := p) (c := c9) hd hS hC9 t B (cb s) (pot s c) x y (s 3041) x5 (by omega) (by omega) (by omega) (by omega) (show 1150976 ≤ (cb s) ∧ 0 ≤ (pot s c) by omega) (show bt (cb s) B (t + x5) ≤ 17179869184 by omega) ?_ _ x5 s c9 (by omega) hS fr_rf hC9 frc_rf hp5 (by rw [show t + x5 - x5 = t by omega]; exact hp6) hp10 (Int.le_refl _) (Int.le_refl _) (Nat.lt_succ_self _)
  intro x13 s14 c15 b16 hS14 f17 hC15 g18 i19 i20 i21 i22 i23 hx24
  show tt Zi d 156 (114, [some (.inr (.inl 30)), some (.inl x), some (.inl y), some (.inl (s 3041)), some (.inl x5), some (.inl x13)], [], n, D, s14, p, c15) _
  have hc25 : mv s14 := mv_fr f17 (by decide) hp0
  have e26 : s14 3050 = (s 3050) := (f17 3050 (by decide))
  have b27 : 0 ≤ (s14 3050) ∧ (s14 3050) ≤ 8 := hS14 3050
  have b28 : 0 ≤ (s 3050) ∧ (s 3050) ≤ 8 := hS 3050
  have e29 : s14 3039 = (s 3039) := (f17 3039 (by decide))
  have b30 : 0 ≤ (s14 3039) ∧ (s14 3039) ≤ 8192 := hS14 3039
  have e31 : s14 3017 = (s 3017) := (f17 3017 (by decide))
  have b32 : 0 ≤ (s14 3017) ∧ (s14 3017) ≤ 65535 := hS14 3017
  have e33 : s14 3018 = (s 3018) := (f17 3018 (by decide))
  have b34 : -2147483648 ≤ (s14 3018) ∧ (s14 3018) ≤ 2147483647 := hS14 3018
  have b35 : -2147483648 ≤ (s 3018) ∧ (s 3018) ≤ 2147483647 := hS 3018
  have e36 : s14 3037 = (s 3037) := (f17 3037 (by decide))
  have b37 : 0 ≤ (s14 3037) ∧ (s14 3037) ≤ 64 := hS14 3037
  have e38 : s14 3036 = (s 3036) := (f17 3036 (by decide))
  have b39 : 0 ≤ (s14 3036) ∧ (s14 3036) ≤ 1 := hS14 3036
  have b40 : 0 ≤ (s 3036) ∧ (s 3036) ≤ 1 := hS 3036
  refine tt_k 5 (S' := (122, [some (.inr (.inl 30)), some (.inl x), some (.inl y), some (.inl (s 3041)), some (.inl x5), some (.inl x13)], [.inl (s14 3037), .inl (x + x5)], n, D, s14, p, c15)) rfl ?_
  refine tb_ne (x := (x + x5)) (y := (s14 3037)) rfl rfl (by omega) (fun h41 => ?_) (fun h41 => ?_)
  · show tt Zi d 156 (138, [some (.inr (.inl 30)), some (.inl x), some (.inl y), some (.inl (s 3041)), some (.inl x5), some (.inl x13)], [], n, D, s14, p, c15) _
    refine tt_k 2 (S' := (140, [some (.inr (.inl 30)), some (.inl x), some (.inl y), some (.inl (s 3041)), some (.inl x5), some (.inl x13)], [.inl 0, .inr (.inl 30)], n, D, s14, p, c15)) rfl ?_
    have hbm := bt_mono (C := cb s) (B := B) (u := t + x5 - x13) (v := t + x5) (by omega) (by omega)
    have hpsn := psi_0 (p := s14 3035)
    have hbk0 := bt_ge (C := cb s) (B := B) (u := t + x5) (v := 4096) (by omega) (by omega)
    have hbl := bt_mono (C := cb s) (B := B) (u := t + x5) (v := 4096) (by omega) (by omega)
    have b42 : 0 ≤ (s14 3047) ∧ (s14 3047) ≤ 255 := hS14 3047
    have b43 : 0 ≤ (s14 3048) ∧ (s14 3048) ≤ 8 := hS14 3048
    have b44 : 0 ≤ (s14 3016) ∧ (s14 3016) ≤ 65536 := hS14 3016
    refine tt_cl (by omega) rfl (k_putBit (Zi := Zi) (D := D) (s := s14) (p := p) (c := c15) (by omega) hS14 hC15 0 (by omega) i19 (show w_u ((s14 3016)) ((s14 3047)) ((s14 3048)) + 8 + 0 ≤ 4194304 by omega)) ?_
    rintro _ _ ⟨s45, c46, rfl, rfl, hS45, hC46, f47, g48, k49, k50, k51⟩
    have hc52 : mv s45 := mv_fr f47 (by decide) hc25
    show tt Zi d 156 (143, [some (.inr (.inl 30)), some (.inl x), some (.inl y), some (.inl (s 3041)), some (.inl x5), some (.inl x13)], [], n, D, s45, p, c46) _
    replace k49 : w_ok ((s45 3047)) ((s45 3048)) := k49
    replace k50 : w_u ((s45 3016)) ((s45 3047)) ((s45 3048)) ≤ w_u ((s14 3016)) ((s14 3047)) ((s14 3048)) + 8 + 0 := k50
    replace k51 : (s14 3016) ≤ (s45 3016) := k51
    have b53 : 0 ≤ (s45 3047) ∧ (s45 3047) ≤ 255 := hS45 3047
    have b54 : 0 ≤ (s45 3048) ∧ (s45 3048) ≤ 8 := hS45 3048
    have b55 : 0 ≤ (s45 3016) ∧ (s45 3016) ≤ 65536 := hS45 3016
    have e56 : s45 3050 = (s14 3050) := (f47 3050 (by decide))
    have b57 : 0 ≤ (s45 3050) ∧ (s45 3050) ≤ 8 := hS45 3050
    have e58 : s45 3039 = (s14 3039) := (f47 3039 (by decide))
    have b59 : 0 ≤ (s45 3039) ∧ (s45 3039) ≤ 8192 := hS45 3039
    have e60 : s45 3017 = (s14 3017) := (f47 3017 (by decide))
    have b61 : 0 ≤ (s45 3017) ∧ (s45 3017) ≤ 65535 := hS45 3017
    have e62 : s45 3018 = (s14 3018) := (f47 3018 (by decide))
    have b63 : -2147483648 ≤ (s45 3018) ∧ (s45 3018) ≤ 2147483647 := hS45 3018
    have e64 : s45 3037 = (s14 3037) := (f47 3037 (by decide))
    have b65 : 0 ≤ (s45 3037) ∧ (s45 3037) ≤ 64 := hS45 3037
    have e66 : s45 3035 = (s14 3035) := (f47 3035 (by decide))
    have b67 : 0 ≤ (s45 3035) ∧ (s45 3035) ≤ 31 := hS45 3035
    have b68 : 0 ≤ (s14 3035) ∧ (s14 3035) ≤ 31 := hS14 3035
    have e69 : s45 3036 = (s14 3036) := (f47 3036 (by decide))
    have b70 : 0 ≤ (s45 3036) ∧ (s45 3036) ≤ 1 := hS45 3036
    refine tt_k 2 (S' := (145, [some (.inr (.inl 30)), some (.inl x), some (.inl y), some (.inl (s 3041)), some (.inl x5), some (.inl x13)], [.inr (.inl 30), .inr (.inl 30)], n, D, s45, p, c46)) rfl ?_
    refine tt_cl (by omega) rfl (k_piecesJ (Zi := Zi) (D := D) (s := s45) (p := p) (c := c46) (by omega) hS45 hC46 (show 0 ≤ (s45 3035) ∧ (s45 3035) ≤ 22 by omega)) ?_
    rintro _ _ ⟨r71, rfl, rfl, b72, k73⟩
    show tt Zi d 156 (148, [some (.inr (.inl 30)), some (.inl x), some (.inl y), some (.inl (s 3041)), some (.inl x5), some (.inl x13)], [.inl r71, .inr (.inl 30)], n, D, s45, p, c46) _
    replace k73 : r71 = jj ((s45 3035)) := k73
    refine tt_k 1 (S' := (150, [some (.inr (.inl 30)), some (.inl x), some (.inl y), some (.inl (s 3041)), some (.inl x5), some (.inl x13)], [.inl x13, .inl r71, .inr (.inl 30)], n, D, s45, p, c46)) rfl ?_
    refine tt_cl (by omega) rfl (k_putBits (Zi := Zi) (D := D) (s := s45) (p := p) (c := c46) (by omega) hS45 hC46 r71 x13 (by omega) (by omega) k49 (show w_u ((s45 3016)) ((s45 3047)) ((s45 3048)) + 8 * r71 + (if x13 = 0 then 0 else r71) ≤ 4194304 by omega)) ?_
    rintro _ _ ⟨s74, c75, rfl, rfl, hS74, hC75, f76, g77, k78, k79, k80⟩
    have hc81 : mv s74 := mv_fr f76 (by decide) hc52
    show tt Zi d 156 (153, [some (.inr (.inl 30)), some (.inl x), some (.inl y), some (.inl (s 3041)), some (.inl x5), some (.inl x13)], [], n, D, s74, p, c75) _
    replace k78 : w_ok ((s74 3047)) ((s74 3048)) := k78
    replace k79 : w_u ((s74 3016)) ((s74 3047)) ((s74 3048)) ≤ w_u ((s45 3016)) ((s45 3047)) ((s45 3048)) + 8 * r71 + (if x13 = 0 then 0 else r71) := k79
    replace k80 : (s45 3016) ≤ (s74 3016) := k80
    have b82 : 0 ≤ (s74 3047) ∧ (s74 3047) ≤ 255 := hS74 3047
    have b83 : 0 ≤ (s74 3048) ∧ (s74 3048) ≤ 8 := hS74 3048
    have b84 : 0 ≤ (s74 3016) ∧ (s74 3016) ≤ 65536 := hS74 3016
    have e85 : s74 3050 = (s45 3050) := (f76 3050 (by decide))
    have b86 : 0 ≤ (s74 3050) ∧ (s74 3050) ≤ 8 := hS74 3050
    have e87 : s74 3039 = (s45 3039) := (f76 3039 (by decide))
    have b88 : 0 ≤ (s74 3039) ∧ (s74 3039) ≤ 8192 := hS74 3039
    have e89 : s74 3017 = (s45 3017) := (f76 3017 (by decide))
    have b90 : 0 ≤ (s74 3017) ∧ (s74 3017) ≤ 65535 := hS74 3017
    have e91 : s74 3018 = (s45 3018) := (f76 3018 (by decide))
    have b92 : -2147483648 ≤ (s74 3018) ∧ (s74 3018) ≤ 2147483647 := hS74 3018
    have e93 : s74 3037 = (s45 3037) := (f76 3037 (by decide))
    have b94 : 0 ≤ (s74 3037) ∧ (s74 3037) ≤ 64 := hS74 3037
    have e95 : s74 3035 = (s45 3035) := (f76 3035 (by decide))
    have b96 : 0 ≤ (s74 3035) ∧ (s74 3035) ≤ 31 := hS74 3035
    have e97 : s74 3036 = (s45 3036) := (f76 3036 (by decide))
    have b98 : 0 ≤ (s74 3036) ∧ (s74 3036) ≤ 1 := hS74 3036
    refine tt_k 6 (S' := (160, [some (.inr (.inl 30)), some (.inl x), some (.inl y), some (.inl (s 3041)), some (.inl x5), some (.inl x13)], [.inl (s 3041), .inl y, .inl (x + x5), .inr (.inl 30)], n, D, s74, p, c75)) rfl ?_
    have aL : s74 3026 = s 3026 := ((f76 3026 (by decide)).trans ((f47 3026 (by decide)).trans (f17 3026 (by decide))))
    have aQ : s74 3025 = s 3025 := ((f76 3025 (by decide)).trans ((f47 3025 (by decide)).trans (f17 3025 (by decide))))
    have aW : s74 3037 = s 3037 := ((f76 3037 (by decide)).trans ((f47 3037 (by decide)).trans (f17 3037 (by decide))))
    have aB : s74 3039 = s 3039 := ((f76 3039 (by decide)).trans ((f47 3039 (by decide)).trans (f17 3039 (by decide))))
    have aM : s74 3017 = s 3017 := ((f76 3017 (by decide)).trans ((f47 3017 (by decide)).trans (f17 3017 (by decide))))
    have aN : s74 3018 = s 3018 := ((f76 3018 (by decide)).trans ((f47 3018 (by decide)).trans (f17 3018 (by decide))))
    have aT : s74 3036 = s 3036 := ((f76 3036 (by decide)).trans ((f47 3036 (by decide)).trans (f17 3036 (by decide))))
    have aF : s74 3050 = s 3050 := ((f76 3050 (by decide)).trans ((f47 3050 (by decide)).trans (f17 3050 (by decide))))
    have aP : s74 3035 = s14 3035 := by omega
    have aPs : psi (s74 3035) = psi (s14 3035) := congrArg psi aP
    have aJs : jj (s74 3035) = jj (s14 3035) := congrArg jj aP
    have aJ3 : jj (s45 3035) = jj (s14 3035) := congrArg jj (by omega)
    have r36 : c75 36 = c 36 := ((g77 36 (by decide)).trans ((g48 36 (by decide)).trans ((g18 36 (by decide)).trans (g10 36 (by decide)))))
    have r37 : c75 37 = c 37 := ((g77 37 (by decide)).trans ((g48 37 (by decide)).trans ((g18 37 (by decide)).trans (g10 37 (by decide)))))
    have r38 : c75 38 = c 38 := ((g77 38 (by decide)).trans ((g48 38 (by decide)).trans ((g18 38 (by decide)).trans (g10 38 (by decide)))))
    have r39 : c75 39 = c 39 := ((g77 39 (by decide)).trans ((g48 39 (by decide)).trans ((g18 39 (by decide)).trans (g10 39 (by decide)))))
    have r31 : c75 31 = c 31 := ((g77 31 (by decide)).trans ((g48 31 (by decide)).trans ((g18 31 (by decide)).trans (g10 31 (by decide)))))
    have r44 : c75 44 = c9 44 := (g77 44 (by decide)).trans ((g48 44 (by decide)).trans (g18 44 (by decide)))
    have apot : pot s74 c75 = pot s c := pot_eq aQ aL r36 r39
    have acb : cb s74 = cb s := by unfold cb; rw [aL]
    have hbk := bt_ge (C := cb s) (B := B) (u := t + x5) (v := 4096) (by omega) (by omega)
    have eix : s 3039 + 64 * y + (x + x5) = s 3039 + 64 * y + x + x5 := by omega
    have hcv := hp8 (x + x5) y (by omega) (by omega) (by omega) (by omega)
    have hif : (if x13 = 0 then 0 else r71) ≤ r71 := by split <;> omega
    refine tt_cl (by omega) rfl (k_stopT (Zi := Zi) (D := D) (s := s74) (p := p) (c := c75) (by omega) hS74 hC75 t (bt (cb s) B (t + x5)) (x + x5) y (s 3041) (by omega) (by omega) (by omega) hc81 (by rw [aT, aF, aW]; omega) (by rw [aM]; omega) (pl_eq aQ r36 r37 r38 r39 hp3) (by omega) k78 (by rw [apot, acb, aPs, aJs]; omega) (by rw [aB, aM, aN, r31]; exact ⟨hcv, by rw [eix]; omega⟩) (by rw [aW, aB, aM, r44]; exact hTf) (by omega)) ?_
    rintro _ _ ⟨s99, c100, rfl, rfl, hS99, hC100, f101, g102, k103, k104, k105, k106, k107, k108⟩
    have hc109 : mv s99 := mv_fr f101 (by decide) hc81
    show tt Zi d 156 (163, [some (.inr (.inl 30)), some (.inl x), some (.inl y), some (.inl (s 3041)), some (.inl x5), some (.inl x13)], [], n, D, s99, p, c100) _
    replace k103 : w_ok ((s99 3047)) ((s99 3048)) := k103
    replace k105 : pl s99 (t + 1) c100 := k105
    replace k106 : tb ((s99 3037)) ((s99 3039)) ((s99 3017)) ((c100 44)) ((x + x5) + 1) y := k106
    replace k107 : (s74 3016) ≤ (s99 3016) := k107
    replace k108 : 0 ≤ (s99 3035) ∧ (s99 3035) ≤ 22 := k108
    have b110 : 0 ≤ (s99 3047) ∧ (s99 3047) ≤ 255 := hS99 3047
    have b111 : 0 ≤ (s99 3048) ∧ (s99 3048) ≤ 8 := hS99 3048
    have b112 : 0 ≤ (s99 3016) ∧ (s99 3016) ≤ 65536 := hS99 3016
    have b113 : 0 ≤ (s99 3035) ∧ (s99 3035) ≤ 31 := hS99 3035
    have b114 : 0 ≤ (s99 3037) ∧ (s99 3037) ≤ 64 := hS99 3037
    have b115 : 0 ≤ (s99 3039) ∧ (s99 3039) ≤ 8192 := hS99 3039
    have b116 : 0 ≤ (s99 3017) ∧ (s99 3017) ≤ 65535 := hS99 3017
    have e117 : s99 3050 = (s74 3050) := (f101 3050 (by decide))
    have b118 : 0 ≤ (s99 3050) ∧ (s99 3050) ≤ 8 := hS99 3050
    have e119 : s99 3039 = (s74 3039) := (f101 3039 (by decide))
    have e120 : s99 3017 = (s74 3017) := (f101 3017 (by decide))
    have e121 : s99 3018 = (s74 3018) := (f101 3018 (by decide))
    have b122 : -2147483648 ≤ (s99 3018) ∧ (s99 3018) ≤ 2147483647 := hS99 3018
    have e123 : s99 3037 = (s74 3037) := (f101 3037 (by decide))
    have e124 : s99 3036 = (s74 3036) := (f101 3036 (by decide))
    have b125 : 0 ≤ (s99 3036) ∧ (s99 3036) ≤ 1 := hS99 3036
    refine tt_k 3 (S' := (167, [some (.inr (.inl 30)), some (.inl x), some (.inl y), some (.inl (s 3041)), some (.inl x5), some (.inl x13)], [.inl (x5 + 1)], n, D, s99, p, c100)) rfl ?_
    have hbs := bt_s (C := cb s) (B := B) (u := t + x5)
    exact tt_rti rfl rfl ⟨s99, c100, (x5 + 1), rfl, rfl, hS99, hC100, (fr_tr (fr_tr (fr_tr (fr_tr fr_rf f17 (by decide)) f47 (by decide)) f76 (by decide)) f101 (by decide)), (frc_tr (frc_tr (frc_tr (frc_tr (frc_tr frc_rf g10 (by decide)) g18 (by decide)) g48 (by decide)) g77 (by decide)) g102 (by decide)), by omega, k103, by show 4096 * (w_u ((s99 3016)) ((s99 3047)) ((s99 3048)) + psi ((s99 3035))) + pot s99 c100 ≤ bt (cb s) B (t + (x5 + 1)); rw [show t + (x5 + 1) = t + x5 + 1 by omega]; omega, pl_mono k105 (by omega), by show tb ((s99 3037)) ((s99 3039)) ((s99 3017)) ((c100 44)) (x + (x5 + 1)) y; rw [show x + (x5 + 1) = x + x5 + 1 by omega]; exact k106, by show s 3016 ≤ (s99 3016); omega, k108, by show x + (x5 + 1) ≤ s 3037; omega⟩
  · show tt Zi d 156 (125, [some (.inr (.inl 30)), some (.inl x), some (.inl y), some (.inl (s 3041)), some (.inl x5), some (.inl x13)], [], n, D, s14, p, c15) _
    refine tt_k 1 (S' := (127, [some (.inr (.inl 30)), some (.inl x), some (.inl y), some (.inl (s 3041)), some (.inl x5), some (.inl x13)], [.inl x13], n, D, s14, p, c15)) rfl ?_
    refine tz_le (x := x13) rfl rfl (by omega) (fun h126 => ?_) (fun h126 => ?_)
    · show tt Zi d 156 (135, [some (.inr (.inl 30)), some (.inl x), some (.inl y), some (.inl (s 3041)), some (.inl x5), some (.inl x13)], [], n, D, s14, p, c15) _
      refine tt_k 1 (S' := (137, [some (.inr (.inl 30)), some (.inl x), some (.inl y), some (.inl (s 3041)), some (.inl x5), some (.inl x13)], [.inl x5], n, D, s14, p, c15)) rfl ?_
      have aL : s14 3026 = s 3026 := (f17 3026 (by decide))
      have aQ : s14 3025 = s 3025 := (f17 3025 (by decide))
      have aW : s14 3037 = s 3037 := (f17 3037 (by decide))
      have aB : s14 3039 = s 3039 := (f17 3039 (by decide))
      have aM : s14 3017 = s 3017 := (f17 3017 (by decide))
      have aP : s14 3035 = s14 3035 := by omega
      have aPs : psi (s14 3035) = psi (s14 3035) := congrArg psi aP
      have r36 : c15 36 = c 36 := ((g18 36 (by decide)).trans (g10 36 (by decide)))
      have r37 : c15 37 = c 37 := ((g18 37 (by decide)).trans (g10 37 (by decide)))
      have r38 : c15 38 = c 38 := ((g18 38 (by decide)).trans (g10 38 (by decide)))
      have r39 : c15 39 = c 39 := ((g18 39 (by decide)).trans (g10 39 (by decide)))
      have r44 : c15 44 = c9 44 := (g18 44 (by decide))
      have apot : pot s14 c15 = pot s c := pot_eq aQ aL r36 r39
      have hbm := bt_mono (C := cb s) (B := B) (u := t + x5 - x13) (v := t + x5) (by omega) (by omega)
      exact tt_rti rfl rfl ⟨s14, c15, x5, rfl, rfl, hS14, hC15, (fr_tr fr_rf f17 (by decide)), (frc_tr (frc_tr frc_rf g10 (by decide)) g18 (by decide)), by omega, i19, by show 4096 * (w_u ((s14 3016)) ((s14 3047)) ((s14 3048)) + psi ((s14 3035))) + pot s14 c15 ≤ bt (cb s) B (t + x5); rw [apot, aPs]; omega, pl_mono (pl_eq aQ r36 r37 r38 r39 hp3) (by omega), by show tb ((s14 3037)) ((s14 3039)) ((s14 3017)) ((c15 44)) (x + x5) y; rw [aW, aB, aM, r44]; exact hTf, by show s 3016 ≤ (s14 3016); omega, by show 0 ≤ (s14 3035) ∧ (s14 3035) ≤ 22; omega, by show x + x5 ≤ s 3037; omega⟩
    · show tt Zi d 156 (130, [some (.inr (.inl 30)), some (.inl x), some (.inl y), some (.inl (s 3041)), some (.inl x5), some (.inl x13)], [], n, D, s14, p, c15) _
      refine tt_k 2 (S' := (132, [some (.inr (.inl 30)), some (.inl x), some (.inl y), some (.inl (s 3041)), some (.inl x5), some (.inl x13)], [.inl 1, .inr (.inl 30)], n, D, s14, p, c15)) rfl ?_
      have hbm := bt_mono (C := cb s) (B := B) (u := t + x5 - x13) (v := t + x5) (by omega) (by omega)
      have hbg := bt_ge (C := cb s) (B := B) (u := t + x5 - x13) (v := t + x5) (by omega) (by omega)
      have hpsn := psi_0 (p := s14 3035)
      have hbl := bt_mono (C := cb s) (B := B) (u := t + x5) (v := 4096) (by omega) (by omega)
      have b127 : 0 ≤ (s14 3047) ∧ (s14 3047) ≤ 255 := hS14 3047
      have b128 : 0 ≤ (s14 3048) ∧ (s14 3048) ≤ 8 := hS14 3048
      have b129 : 0 ≤ (s14 3016) ∧ (s14 3016) ≤ 65536 := hS14 3016
      refine tt_cl (by omega) rfl (k_putBit (Zi := Zi) (D := D) (s := s14) (p := p) (c := c15) (by omega) hS14 hC15 1 (by omega) i19 (show w_u ((s14 3016)) ((s14 3047)) ((s14 3048)) + 8 + 1 ≤ 4194304 by omega)) ?_
      rintro _ _ ⟨s130, c131, rfl, rfl, hS130, hC131, f132, g133, k134, k135, k136⟩
      have hc137 : mv s130 := mv_fr f132 (by decide) hc25
      show tt Zi d 156 (135, [some (.inr (.inl 30)), some (.inl x), some (.inl y), some (.inl (s 3041)), some (.inl x5), some (.inl x13)], [], n, D, s130, p, c131) _
      replace k134 : w_ok ((s130 3047)) ((s130 3048)) := k134
      replace k135 : w_u ((s130 3016)) ((s130 3047)) ((s130 3048)) ≤ w_u ((s14 3016)) ((s14 3047)) ((s14 3048)) + 8 + 1 := k135
      replace k136 : (s14 3016) ≤ (s130 3016) := k136
      have b138 : 0 ≤ (s130 3047) ∧ (s130 3047) ≤ 255 := hS130 3047
      have b139 : 0 ≤ (s130 3048) ∧ (s130 3048) ≤ 8 := hS130 3048
      have b140 : 0 ≤ (s130 3016) ∧ (s130 3016) ≤ 65536 := hS130 3016
      have e141 : s130 3050 = (s14 3050) := (f132 3050 (by decide))
      have b142 : 0 ≤ (s130 3050) ∧ (s130 3050) ≤ 8 := hS130 3050
      have e143 : s130 3039 = (s14 3039) := (f132 3039 (by decide))
      have b144 : 0 ≤ (s130 3039) ∧ (s130 3039) ≤ 8192 := hS130 3039
      have e145 : s130 3017 = (s14 3017) := (f132 3017 (by decide))
      have b146 : 0 ≤ (s130 3017) ∧ (s130 3017) ≤ 65535 := hS130 3017
      have e147 : s130 3018 = (s14 3018) := (f132 3018 (by decide))
      have b148 : -2147483648 ≤ (s130 3018) ∧ (s130 3018) ≤ 2147483647 := hS130 3018
      have e149 : s130 3037 = (s14 3037) := (f132 3037 (by decide))
      have b150 : 0 ≤ (s130 3037) ∧ (s130 3037) ≤ 64 := hS130 3037
      have e151 : s130 3035 = (s14 3035) := (f132 3035 (by decide))
      have b152 : 0 ≤ (s130 3035) ∧ (s130 3035) ≤ 31 := hS130 3035
      have b153 : 0 ≤ (s14 3035) ∧ (s14 3035) ≤ 31 := hS14 3035
      have e154 : s130 3036 = (s14 3036) := (f132 3036 (by decide))
      have b155 : 0 ≤ (s130 3036) ∧ (s130 3036) ≤ 1 := hS130 3036
      refine tt_k 1 (S' := (137, [some (.inr (.inl 30)), some (.inl x), some (.inl y), some (.inl (s 3041)), some (.inl x5), some (.inl x13)], [.inl x5], n, D, s130, p, c131)) rfl ?_
      have aL : s130 3026 = s 3026 := ((f132 3026 (by decide)).trans (f17 3026 (by decide)))
      have aQ : s130 3025 = s 3025 := ((f132 3025 (by decide)).trans (f17 3025 (by decide)))
      have aW : s130 3037 = s 3037 := ((f132 3037 (by decide)).trans (f17 3037 (by decide)))
      have aB : s130 3039 = s 3039 := ((f132 3039 (by decide)).trans (f17 3039 (by decide)))
      have aM : s130 3017 = s 3017 := ((f132 3017 (by decide)).trans (f17 3017 (by decide)))
      have aP : s130 3035 = s14 3035 := by omega
      have aPs : psi (s130 3035) = psi (s14 3035) := congrArg psi aP
      have r36 : c131 36 = c 36 := ((g133 36 (by decide)).trans ((g18 36 (by decide)).trans (g10 36 (by decide))))
      have r37 : c131 37 = c 37 := ((g133 37 (by decide)).trans ((g18 37 (by decide)).trans (g10 37 (by decide))))
      have r38 : c131 38 = c 38 := ((g133 38 (by decide)).trans ((g18 38 (by decide)).trans (g10 38 (by decide))))
      have r39 : c131 39 = c 39 := ((g133 39 (by decide)).trans ((g18 39 (by decide)).trans (g10 39 (by decide))))
      have r44 : c131 44 = c9 44 := ((g133 44 (by decide)).trans (g18 44 (by decide)))
      have apot : pot s130 c131 = pot s c := pot_eq aQ aL r36 r39
      exact tt_rti rfl rfl ⟨s130, c131, x5, rfl, rfl, hS130, hC131, (fr_tr (fr_tr fr_rf f17 (by decide)) f132 (by decide)), (frc_tr (frc_tr (frc_tr frc_rf g10 (by decide)) g18 (by decide)) g133 (by decide)), by omega, k134, by show 4096 * (w_u ((s130 3016)) ((s130 3047)) ((s130 3048)) + psi ((s130 3035))) + pot s130 c131 ≤ bt (cb s) B (t + x5); rw [apot, aPs]; omega, pl_mono (pl_eq aQ r36 r37 r38 r39 hp3) (by omega), by show tb ((s130 3037)) ((s130 3039)) ((s130 3017)) ((c131 44)) (x + x5) y; rw [aW, aB, aM, r44]; exact hTf, by show s 3016 ≤ (s130 3016); omega, by show 0 ≤ (s130 3035) ∧ (s130 3035) ≤ 22; omega, by show x + x5 ≤ s 3037; omega⟩
