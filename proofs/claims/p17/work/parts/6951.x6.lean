/-! the reference tells a run, exactly -/
set_option maxRecDepth 100000 in
set_option maxHeartbeats 4000000 in
theorem x_tell_L8 {Zi : Nat → Option (Nat × (Nat → Int))} {d n : Nat} {D : Nat → Nat × Nat} {s : Nat → Int} {p : Nat → Nat} {c : Nat → Nat → Int} {o_5 : Option mi_V} {Q : mi_Rs → mi_H → Prop} (hd : 5 ≤ d) (hS : bS s) (hC : bC D c) (Z : Nat → Int) (S : Int → Int) (R : Int) (x : Int) (y : Int) (run : Int) (b_x : 0 ≤ x ∧ x ≤ 63) (b_y : 0 ≤ y ∧ y ≤ 63) (b_run : 0 ≤ run ∧ run ≤ 65535) (hq0 : smc S (s 3039 + 64 * y) (s 3037) (c 31)) (hq1 : s 3018 = Z 3018)
  (hK : ∀ (n_ : Int) (b_n_ : 0 ≤ n_ ∧ n_ ≤ 64) (i0 : x + n_ ≤ s 3037) (i1 : rN S run (Z 3018) (s 3037) (65 - n_).toNat x n_ = R), (R = n_) → tt Zi d 156 (56, [some (.inr (.inl 30)), some (.inl x), some (.inl y), some (.inl run), some (.inl n_), o_5], [], n, D, s, p, c) Q) :
  ∀ (m : Nat) (n_ : Int) (b_n_ : 0 ≤ n_ ∧ n_ ≤ 64) (i0 : x + n_ ≤ s 3037) (i1 : rN S run (Z 3018) (s 3037) (65 - n_).toNat x n_ = R), (s 3037 - x - n_).toNat < m → tt Zi d 156 (8, [some (.inr (.inl 30)), some (.inl x), some (.inl y), some (.inl run), some (.inl n_), o_5], [], n, D, s, p, c) Q := by
  intro m
  induction m with
  | zero => intro n_ b_n_ i0 i1 hm; exact absurd hm (by omega)
  | succ m ih =>
    intro n_ b_n_ i0 i1 hm
    have b1 : 0 ≤ (s 3037) ∧ (s 3037) ≤ 64 := hS 3037
    have b2 : 0 ≤ (s 3039) ∧ (s 3039) ≤ 8192 := hS 3039
    have b3 : -2147483648 ≤ (s 3018) ∧ (s 3018) ≤ 2147483647 := hS 3018
    refine tt_k 5 (S' := (16, [some (.inr (.inl 30)), some (.inl x), some (.inl y), some (.inl run), some (.inl n_), o_5], [.inl (s 3037), .inl (x + n_)], n, D, s, p, c)) rfl ?_
    refine tb_ge (x := (x + n_)) (y := (s 3037)) rfl rfl (by omega) (fun h4 => ?_) (fun h4 => ?_)
    · show tt Zi d 156 (56, [some (.inr (.inl 30)), some (.inl x), some (.inl y), some (.inl run), some (.inl n_), o_5], [], n, D, s, p, c) _
      exact hK n_ (by omega) (show x + n_ ≤ s 3037 by omega) i1 (rN_e i1 (by omega) (fun h => absurd h.1 (by omega)))
    · show tt Zi d 156 (19, [some (.inr (.inl 30)), some (.inl x), some (.inl y), some (.inl run), some (.inl n_), o_5], [], n, D, s, p, c) _
      refine tt_k 12 (S' := (37, [some (.inr (.inl 30)), some (.inl x), some (.inl y), some (.inl run), some (.inl n_), o_5], [.inl (((((s 3039) + (64 * y)) + x) + n_)), .inr (.inl 31)], n, D, s, p, c)) rfl ?_
      refine tt_ildv (i := ((((s 3039) + (64 * y)) + x) + n_)) (v := (c 31 (((((s 3039) + (64 * y)) + x) + n_)).toNat)) rfl rfl (by omega) rfl ?_
      show tt Zi d 156 (38, [some (.inr (.inl 30)), some (.inl x), some (.inl y), some (.inl run), some (.inl n_), o_5], [.inl ((c 31 (((((s 3039) + (64 * y)) + x) + n_)).toNat))], n, D, s, p, c) _
      have b5 : 0 ≤ (c 31 (((((s 3039) + (64 * y)) + x) + n_)).toNat) ∧ (c 31 (((((s 3039) + (64 * y)) + x) + n_)).toNat) ≤ 65535 := hC 31 _
      have hsv : (c 31 (((((s 3039) + (64 * y)) + x) + n_)).toNat) = S (x + n_) := by have h := hq0 (x + n_) (by omega) (by omega); rw [show s 3039 + 64 * y + (x + n_) = s 3039 + 64 * y + x + n_ by omega] at h; exact h
      refine tt_k 2 (S' := (40, [some (.inr (.inl 30)), some (.inl x), some (.inl y), some (.inl run), some (.inl n_), o_5], [.inl (((c 31 (((((s 3039) + (64 * y)) + x) + n_)).toNat) - run))], n, D, s, p, c)) rfl ?_
      refine tt_cl (by omega) rfl (k_sizeOf (Zi := Zi) (D := D) (s := s) (p := p) (c := c) (by omega) hS hC (((c 31 (((((s 3039) + (64 * y)) + x) + n_)).toNat) - run)) (by omega)) ?_
      rintro _ _ ⟨r6, rfl, rfl, b7, k8⟩
      show tt Zi d 156 (43, [some (.inr (.inl 30)), some (.inl x), some (.inl y), some (.inl run), some (.inl n_), o_5], [.inl r6], n, D, s, p, c) _
      replace k8 : r6 = if 0 ≤ (((c 31 (((((s 3039) + (64 * y)) + x) + n_)).toNat) - run)) then (((c 31 (((((s 3039) + (64 * y)) + x) + n_)).toNat) - run)) else -(((c 31 (((((s 3039) + (64 * y)) + x) + n_)).toNat) - run)) := k8
      subst k8
      show tt Zi d 156 (43, [some (.inr (.inl 30)), some (.inl x), some (.inl y), some (.inl run), some (.inl n_), o_5], [.inl ((if 0 ≤ (((c 31 (((((s 3039) + (64 * y)) + x) + n_)).toNat) - run)) then (((c 31 (((((s 3039) + (64 * y)) + x) + n_)).toNat) - run)) else -(((c 31 (((((s 3039) + (64 * y)) + x) + n_)).toNat) - run))))], n, D, s, p, c) _
      refine tt_k 2 (S' := (47, [some (.inr (.inl 30)), some (.inl x), some (.inl y), some (.inl run), some (.inl n_), o_5], [.inl (s 3018), .inl ((if 0 ≤ (((c 31 (((((s 3039) + (64 * y)) + x) + n_)).toNat) - run)) then (((c 31 (((((s 3039) + (64 * y)) + x) + n_)).toNat) - run)) else -(((c 31 (((((s 3039) + (64 * y)) + x) + n_)).toNat) - run))))], n, D, s, p, c)) rfl ?_
      refine tb_gt (x := (if 0 ≤ (((c 31 (((((s 3039) + (64 * y)) + x) + n_)).toNat) - run)) then (((c 31 (((((s 3039) + (64 * y)) + x) + n_)).toNat) - run)) else -(((c 31 (((((s 3039) + (64 * y)) + x) + n_)).toNat) - run)))) (y := (s 3018)) rfl rfl (by omega) (fun h9 => ?_) (fun h9 => ?_)
      · show tt Zi d 156 (56, [some (.inr (.inl 30)), some (.inl x), some (.inl y), some (.inl run), some (.inl n_), o_5], [], n, D, s, p, c) _
        exact hK n_ (by omega) (show x + n_ ≤ s 3037 by omega) i1 (rN_e i1 (by omega) (fun h => by have h2 := h.2; unfold fA at h2; rw [← hsv] at h2; omega))
      · show tt Zi d 156 (50, [some (.inr (.inl 30)), some (.inl x), some (.inl y), some (.inl run), some (.inl n_), o_5], [], n, D, s, p, c) _
        refine tt_k 2 (S' := (8, [some (.inr (.inl 30)), some (.inl x), some (.inl y), some (.inl run), some (.inl (n_ + 1)), o_5], [], n, D, s, p, c)) rfl ?_
        exact ih (n_ + 1)  (by omega) (show x + (n_ + 1) ≤ s 3037 by omega) (rN_s i1 (by omega) (by omega) ⟨by omega, by unfold fA; rw [← hsv]; omega⟩) (show (s 3037 - x - (n_ + 1)).toNat < m by omega)

set_option maxRecDepth 100000 in
set_option maxHeartbeats 4000000 in
theorem x_tell_L69 {Zi : Nat → Option (Nat × (Nat → Int))} {d n : Nat} {D : Nat → Nat × Nat} {s : Nat → Int} {p : Nat → Nat} {c : Nat → Nat → Int}  {Q : mi_Rs → mi_H → Prop} (hd : 5 ≤ d) (hS : bS s) (hC : bC D c) (R : Int × Int × WT) (U : Int) (x : Int) (y : Int) (run : Int) (n_ : Int) (b_x : 0 ≤ x ∧ x ≤ 63) (b_y : 0 ≤ y ∧ y ≤ 63) (b_run : 0 ≤ run ∧ run ≤ 65535) (b_n_ : 0 ≤ n_ ∧ n_ ≤ 64) (hq0 : U + 200 ≤ 65535)
  (hK : ∀ (rest : Int) (s0 : Nat → Int) (c0 : Nat → Nat → Int) (b_rest : 0 ≤ rest ∧ rest ≤ 64) (hS0 : bS s0) (hF0 : fr s s0 [3016, 3035, 3047, 3048]) (hC0 : bC D c0) (hG0 : frc c c0 [35]) (i0 : w_ok (s0 3047) (s0 3048)) (i1 : rLp rest (s0 3035) R (s0 3016) (s0 3047) (s0 3048) (c0 35)) (i2 : 0 ≤ s0 3035 ∧ s0 3035 ≤ 22) (i3 : s0 3016 + rest ≤ U ∧ s 3016 ≤ s0 3016) (i4 : rest ≤ n_), (¬ 2 ^ (jj (s0 3035)).toNat ≤ rest) → tt Zi d 156 (114, [some (.inr (.inl 30)), some (.inl x), some (.inl y), some (.inl run), some (.inl n_), some (.inl rest)], [], n, D, s0, p, c0) Q) :
  ∀ (m : Nat) (rest : Int) (s0 : Nat → Int) (c0 : Nat → Nat → Int) (b_rest : 0 ≤ rest ∧ rest ≤ 64) (hS0 : bS s0) (hF0 : fr s s0 [3016, 3035, 3047, 3048]) (hC0 : bC D c0) (hG0 : frc c c0 [35]) (i0 : w_ok (s0 3047) (s0 3048)) (i1 : rLp rest (s0 3035) R (s0 3016) (s0 3047) (s0 3048) (c0 35)) (i2 : 0 ≤ s0 3035 ∧ s0 3035 ≤ 22) (i3 : s0 3016 + rest ≤ U ∧ s 3016 ≤ s0 3016) (i4 : rest ≤ n_), rest.toNat < m → tt Zi d 156 (69, [some (.inr (.inl 30)), some (.inl x), some (.inl y), some (.inl run), some (.inl n_), some (.inl rest)], [], n, D, s0, p, c0) Q := by
  intro m
  induction m with
  | zero => intro rest s0 c0 b_rest hS0 hF0 hC0 hG0 i0 i1 i2 i3 i4 hm; exact absurd hm (by omega)
  | succ m ih =>
    intro rest s0 c0 b_rest hS0 hF0 hC0 hG0 i0 i1 i2 i3 i4 hm
    have e1 : s0 3050 = s 3050 := hF0 3050 (by decide)
    have b2 : 0 ≤ (s0 3050) ∧ (s0 3050) ≤ 8 := hS0 3050
    have b3 : 0 ≤ (s 3050) ∧ (s 3050) ≤ 8 := hS 3050
    have e4 : s0 3039 = s 3039 := hF0 3039 (by decide)
    have b5 : 0 ≤ (s0 3039) ∧ (s0 3039) ≤ 8192 := hS0 3039
    have b6 : 0 ≤ (s 3039) ∧ (s 3039) ≤ 8192 := hS 3039
    have e7 : s0 3017 = s 3017 := hF0 3017 (by decide)
    have b8 : 0 ≤ (s0 3017) ∧ (s0 3017) ≤ 65535 := hS0 3017
    have b9 : 0 ≤ (s 3017) ∧ (s 3017) ≤ 65535 := hS 3017
    have e10 : s0 3018 = s 3018 := hF0 3018 (by decide)
    have b11 : -2147483648 ≤ (s0 3018) ∧ (s0 3018) ≤ 2147483647 := hS0 3018
    have b12 : -2147483648 ≤ (s 3018) ∧ (s 3018) ≤ 2147483647 := hS 3018
    have e13 : s0 3037 = s 3037 := hF0 3037 (by decide)
    have b14 : 0 ≤ (s0 3037) ∧ (s0 3037) ≤ 64 := hS0 3037
    have b15 : 0 ≤ (s 3037) ∧ (s 3037) ≤ 64 := hS 3037
    have e16 : s0 3036 = s 3036 := hF0 3036 (by decide)
    have b17 : 0 ≤ (s0 3036) ∧ (s0 3036) ≤ 1 := hS0 3036
    have b18 : 0 ≤ (s 3036) ∧ (s 3036) ≤ 1 := hS 3036
    obtain ⟨W1, m1, hm1, hw1, hr1⟩ := i1
    have hjb := jj_bd i2
    have hj7 := jj_7 (p := s0 3035) i2
    refine tt_k 3 (S' := (73, [some (.inr (.inl 30)), some (.inl x), some (.inl y), some (.inl run), some (.inl n_), some (.inl rest)], [.inr (.inl 30), .inl 1, .inl rest], n, D, s0, p, c0)) rfl ?_
    have b19 : 0 ≤ (s0 3035) ∧ (s0 3035) ≤ 31 := hS0 3035
    refine tt_cl (by omega) rfl (k_piecesJ (Zi := Zi) (D := D) (s := s0) (p := p) (c := c0) (by omega) hS0 hC0 (show 0 ≤ (s0 3035) ∧ (s0 3035) ≤ 22 by omega)) ?_
    rintro _ _ ⟨r20, rfl, rfl, b21, k22⟩
    show tt Zi d 156 (76, [some (.inr (.inl 30)), some (.inl x), some (.inl y), some (.inl run), some (.inl n_), some (.inl rest)], [.inl r20, .inl 1, .inl rest], n, D, s0, p, c0) _
    replace k22 : r20 = jj ((s0 3035)) := k22
    have hq23 : mi_shl 1 r20 = 2 ^ (jj (s0 3035)).toNat := by rw [k22, show (s0 3035) = s0 3035 by omega]; exact mi_shl1i (by omega) (by omega)
    refine tt_k 1 (S' := (77, [some (.inr (.inl 30)), some (.inl x), some (.inl y), some (.inl run), some (.inl n_), some (.inl rest)], [.inl (mi_shl 1 r20), .inl rest], n, D, s0, p, c0)) rfl ?_
    have e24 : 1 ≤ (mi_shl 1 r20) ∧ (mi_shl 1 r20) ≤ 128 := mi_shl1b 0 7 (by omega) (by omega) (by decide)
    refine tb_lt (x := rest) (y := (mi_shl 1 r20)) rfl rfl (by omega) (fun h25 => ?_) (fun h25 => ?_)
    · show tt Zi d 156 (114, [some (.inr (.inl 30)), some (.inl x), some (.inl y), some (.inl run), some (.inl n_), some (.inl rest)], [], n, D, s0, p, c0) _
      exact hK rest s0 c0 (by omega) hS0 hF0 hC0 hG0 i0 ⟨W1, m1, hm1, hw1, hr1⟩ i2 i3 i4 (by omega)
    · show tt Zi d 156 (80, [some (.inr (.inl 30)), some (.inl x), some (.inl y), some (.inl run), some (.inl n_), some (.inl rest)], [], n, D, s0, p, c0) _
      refine tt_k 2 (S' := (82, [some (.inr (.inl 30)), some (.inl x), some (.inl y), some (.inl run), some (.inl n_), some (.inl rest)], [.inl 1, .inr (.inl 30)], n, D, s0, p, c0)) rfl ?_
      have b26 : 0 ≤ (s0 3047) ∧ (s0 3047) ≤ 255 := hS0 3047
      have b27 : 0 ≤ (s0 3048) ∧ (s0 3048) ≤ 8 := hS0 3048
      have b28 : 0 ≤ (s0 3016) ∧ (s0 3016) ≤ 65536 := hS0 3016
      refine tt_cl (by omega) rfl (x_putBit (Zi := Zi) (D := D) (s := s0) (p := p) (c := c0) (by omega) hS0 hC0 W1 1 (by omega) i0 (show (s0 3016) ≤ 65535 by omega) hw1) ?_
      rintro _ _ ⟨s29, c30, rfl, rfl, hS29, hC30, f31, g32, k33, k34, k35⟩
      show tt Zi d 156 (85, [some (.inr (.inl 30)), some (.inl x), some (.inl y), some (.inl run), some (.inl n_), some (.inl rest)], [], n, D, s29, p, c30) _
      replace k33 : w_ok ((s29 3047)) ((s29 3048)) := k33
      replace k34 : (s0 3016) ≤ (s29 3016) ∧ (s29 3016) ≤ (s0 3016) + 1 := k34
      replace k35 : wrl (wBit W1 1) ((s29 3016)) ((s29 3047)) ((s29 3048)) ((c30 35)) := k35
      have b36 : 0 ≤ (s29 3047) ∧ (s29 3047) ≤ 255 := hS29 3047
      have b37 : 0 ≤ (s29 3048) ∧ (s29 3048) ≤ 8 := hS29 3048
      have b38 : 0 ≤ (s29 3016) ∧ (s29 3016) ≤ 65536 := hS29 3016
      have e39 : s29 3050 = (s0 3050) := (f31 3050 (by decide))
      have b40 : 0 ≤ (s29 3050) ∧ (s29 3050) ≤ 8 := hS29 3050
      have e41 : s29 3039 = (s0 3039) := (f31 3039 (by decide))
      have b42 : 0 ≤ (s29 3039) ∧ (s29 3039) ≤ 8192 := hS29 3039
      have e43 : s29 3017 = (s0 3017) := (f31 3017 (by decide))
      have b44 : 0 ≤ (s29 3017) ∧ (s29 3017) ≤ 65535 := hS29 3017
      have e45 : s29 3018 = (s0 3018) := (f31 3018 (by decide))
      have b46 : -2147483648 ≤ (s29 3018) ∧ (s29 3018) ≤ 2147483647 := hS29 3018
      have e47 : s29 3037 = (s0 3037) := (f31 3037 (by decide))
      have b48 : 0 ≤ (s29 3037) ∧ (s29 3037) ≤ 64 := hS29 3037
      have e49 : s29 3035 = (s0 3035) := (f31 3035 (by decide))
      have b50 : 0 ≤ (s29 3035) ∧ (s29 3035) ≤ 31 := hS29 3035
      have e51 : s29 3036 = (s0 3036) := (f31 3036 (by decide))
      have b52 : 0 ≤ (s29 3036) ∧ (s29 3036) ≤ 1 := hS29 3036
      refine tt_k 3 (S' := (89, [some (.inr (.inl 30)), some (.inl x), some (.inl y), some (.inl run), some (.inl n_), some (.inl rest)], [.inr (.inl 30), .inl 1, .inl rest], n, D, s29, p, c30)) rfl ?_
      refine tt_cl (by omega) rfl (k_piecesJ (Zi := Zi) (D := D) (s := s29) (p := p) (c := c30) (by omega) hS29 hC30 (show 0 ≤ (s29 3035) ∧ (s29 3035) ≤ 22 by omega)) ?_
      rintro _ _ ⟨r53, rfl, rfl, b54, k55⟩
      show tt Zi d 156 (92, [some (.inr (.inl 30)), some (.inl x), some (.inl y), some (.inl run), some (.inl n_), some (.inl rest)], [.inl r53, .inl 1, .inl rest], n, D, s29, p, c30) _
      replace k55 : r53 = jj ((s29 3035)) := k55
      have hq56 : mi_shl 1 r53 = 2 ^ (jj (s0 3035)).toNat := by rw [k55, show (s29 3035) = s0 3035 by omega]; exact mi_shl1i (by omega) (by omega)
      refine tt_k 9 (S' := (105, [some (.inr (.inl 30)), some (.inl x), some (.inl y), some (.inl run), some (.inl n_), some (.inl (rest - (mi_shl 1 r53)))], [.inl ((s29 3035) + 1), .inl 31, .inr (.inl 30)], n, D, s29, p, c30)) rfl ?_
      refine tt_cl (by omega) rfl (k_less (Zi := Zi) (D := D) (s := s29) (p := p) (c := c30) (by omega) hS29 hC30 31 ((s29 3035) + 1) (by omega) (by omega)) ?_
      rintro _ _ ⟨r57, rfl, rfl, b58, k59⟩
      show tt Zi d 156 (108, [some (.inr (.inl 30)), some (.inl x), some (.inl y), some (.inl run), some (.inl n_), some (.inl (rest - (mi_shl 1 r53)))], [.inl r57, .inr (.inl 30)], n, D, s29, p, c30) _
      replace k59 : r57 = min 31 ((s29 3035) + 1) := k59
      subst k59
      show tt Zi d 156 (108, [some (.inr (.inl 30)), some (.inl x), some (.inl y), some (.inl run), some (.inl n_), some (.inl (rest - (mi_shl 1 r53)))], [.inl ((min 31 ((s29 3035) + 1))), .inr (.inl 30)], n, D, s29, p, c30) _
      show tt Zi d 156 (108, [some (.inr (.inl 30)), some (.inl x), some (.inl y), some (.inl run), some (.inl n_), some (.inl (rest - (mi_shl 1 r53)))], [.inl ((min 31 ((s29 3035) + 1))), .inr (.inl 30)], n, D, s29, p, c30) _
      have hj6 := jj_le6 i2 (by omega)
      rw [show min 31 ((s29 3035) + 1) = (s29 3035) + 1 by omega]
      show tt Zi d 156 (108, [some (.inr (.inl 30)), some (.inl x), some (.inl y), some (.inl run), some (.inl n_), some (.inl (rest - (mi_shl 1 r53)))], [.inl ((s29 3035) + 1), .inr (.inl 30)], n, D, s29, p, c30) _
      refine tt_k 2 (S' := (69, [some (.inr (.inl 30)), some (.inl x), some (.inl y), some (.inl run), some (.inl n_), some (.inl (rest - (mi_shl 1 r53)))], [], n, D, (us s29 3035 ((s29 3035) + 1)), p, c30)) rfl ?_
      have e60 : 1 ≤ (mi_shl 1 r53) ∧ (mi_shl 1 r53) ≤ 128 := mi_shl1b 0 7 (by omega) (by omega) (by decide)
      have hpn : (s29 3035) = s0 3035 := by omega
      obtain ⟨m2, hm2, hr2⟩ := rP_s hr1 hm1 (by omega)
      rw [show min 31 (s0 3035 + 1) = s0 3035 + 1 by omega] at hr2
      have hre : (rest - (mi_shl 1 r53)) = rest - 2 ^ (jj (s0 3035)).toNat := by omega
      exact ih (rest - (mi_shl 1 r53)) (us s29 3035 ((s29 3035) + 1)) c30 (by omega) (bS_us hS29 (show 0 ≤ ((s29 3035) + 1) ∧ ((s29 3035) + 1) ≤ 31 by omega)) (fr_us (by decide) (fr_tr hF0 f31 (by decide))) hC30 (frc_tr hG0 g32 (by decide)) k33 ⟨_, m2, (by rw [hre]; exact hm2), k35, (by rw [hre, hpn]; exact hr2)⟩ (show 0 ≤ ((s29 3035) + 1) ∧ ((s29 3035) + 1) ≤ 22 by omega) (show (s29 3016) + (rest - (mi_shl 1 r53)) ≤ U ∧ s 3016 ≤ (s29 3016) by omega) (show (rest - (mi_shl 1 r53)) ≤ n_ by omega) (show (rest - (mi_shl 1 r53)).toNat < m by omega)
set_option maxRecDepth 100000 in
set_option maxHeartbeats 4000000 in
theorem x_tell {Zi : Nat → Option (Nat × (Nat → Int))} {d n : Nat} {D : Nat → Nat × Nat} {s : Nat → Int} {p : Nat → Nat} {c : Nat → Nat → Int} (hd : 5 ≤ d) (hS : bS s) (hC : bC D c) (t : Int) (Z : Nat → Int) (X : XT) (S : Int → Int) (x : Int) (y : Int) (b_x : 0 ≤ x ∧ x ≤ 63) (b_y : 0 ≤ y ∧ y ≤ 63) (hp0 : mv s) (hp1 : s 3036 = 1 ∧ s 3050 = 0 ∧ x < s 3037) (hp2 : s 3041 = nA X.2.2.2 x y) (hp3 : pl s t c) (hp4 : 0 ≤ t ∧ t + s 3037 - x ≤ 4096) (hp5 : w_ok (s 3047) (s 3048)) (hp6 : s 3016 + 300 ≤ 65535) (hp7 : smc S (s 3039 + 64 * y) (s 3037) (c 31)) (hp8 : ∀ xx : Int, 0 ≤ xx → xx < s 3037 → 0 ≤ S xx ∧ S xx ≤ Z 3017) (hp9 : 0 ≤ s 3035 ∧ s 3035 ≤ 22 ∧ s 3035 = X.2.2.1) (hp10 : trl X.2.2.2 (s 3039) (s 3037) x y (c 44)) (hp11 : zq Z (s 3017) (s 3018) (s 3019) (s 3020) (s 3021) (s 3022) (s 3023) (s 3024) (s 3025) (s 3026)) (hp12 : wrl X.1 (s 3016) (s 3047) (s 3048) (c 35)) (hp13 : mrl X.2.1 (c 36) (c 37) (c 38) (c 39)) (hp14 : vX Z (s 3037) y x X) (hp15 : mv Z) (hp16 : gsX Z (s 3037) y x X = 0) : tt Zi d 156 (0, [some (.inr (.inl 30)), some (.inl x), some (.inl y), none, none, none], [], n, D, s, p, c) (fun R H => ∃ (s' : Nat → Int) (c' : Nat → Nat → Int) (r : Int), R = .inl (some (.inl r)) ∧ H = (n, D, s', p, c') ∧ bS s' ∧ bC D c' ∧ fr s s' [3016, 3035, 3041, 3042, 3043, 3044, 3045, 3046, 3047, 3048] ∧ frc c c' [35, 36, 37, 39, 44] ∧ (1 ≤ r ∧ r ≤ 64) ∧ (w_ok (s' 3047) (s' 3048)) ∧ (s 3016 ≤ s' 3016 ∧ s' 3016 ≤ s 3016 + 250) ∧ (wrl (ruX Z (s 3037) S y x X).1 (s' 3016) (s' 3047) (s' 3048) (c' 35)) ∧ (mrl (ruX Z (s 3037) S y x X).2.1 (c' 36) (c' 37) (c' 38) (c' 39)) ∧ (s' 3035 = (ruX Z (s 3037) S y x X).2.2.1) ∧ (trl (ruX Z (s 3037) S y x X).2.2.2 (s' 3039) (s' 3037) (x + r) y (c' 44)) ∧ (r = ruN Z (s 3037) S y x X)) := by
  have mvx := mv_fx hp0
  have hzq := hp11
  obtain ⟨z0, z1, z2, z3, z4, z5, z6, z7, z8, z9⟩ := hzq
  have b1 : 0 ≤ (s 3037) ∧ (s 3037) ≤ 64 := hS 3037
  have b2 : 0 ≤ (s 3039) ∧ (s 3039) ≤ 8192 := hS 3039
  have b3 : 0 ≤ (s 3041) ∧ (s 3041) ≤ 65535 := hS 3041
  have b4 : 0 ≤ (s 3017) ∧ (s 3017) ≤ 65535 := hS 3017
  have b5 : 0 ≤ (s 3035) ∧ (s 3035) ≤ 31 := hS 3035
  have hB37 : 0 ≤ c 37 365 ∧ 0 ≤ c 37 366 := by rw [(hp13 365 (by decide)).2.1, (hp13 366 (by decide)).2.1]; exact hp14.2.2.2.2
  have hna := nA_bd hp14.2.1 (by omega) (by omega) (by omega)
  refine tt_k 5 (S' := (8, [some (.inr (.inl 30)), some (.inl x), some (.inl y), some (.inl (s 3041)), some (.inl 0), none], [], n, D, s, p, c)) rfl ?_
  have b6 : -2147483648 ≤ (s 3018) ∧ (s 3018) ≤ 2147483647 := hS 3018
  refine x_tell_L8 (Zi := Zi) (D := D) (s := s) (p := p) (c := c) hd hS hC Z S (rN S (s 3041) (Z 3018) (s 3037) 65 x 0) x y (s 3041) (by omega) (by omega) (by omega) hp7 z1 ?_ _ 0  (by omega) (show x + 0 ≤ (s 3037) by omega) rfl (Nat.lt_succ_self _)
  intro x7 b8 i9 i10 hx11
  show tt Zi d 156 (56, [some (.inr (.inl 30)), some (.inl x), some (.inl y), some (.inl (s 3041)), some (.inl x7), none], [], n, D, s, p, c) _
  have hrn : x7 = (rnX Z (s 3037) S y x X) := by have h := hx11; rw [hp2] at h; exact h.symm
  refine tt_k 5 (S' := (62, [some (.inr (.inl 30)), some (.inl x), some (.inl y), some (.inl (s 3041)), some (.inl x7), none], [.inl (s 3041), .inl x7, .inl y, .inl x, .inr (.inl 30)], n, D, s, p, c)) rfl ?_
  refine tt_cl (by omega) rfl (k_fill (Zi := Zi) (D := D) (s := s) (p := p) (c := c) (by omega) hS hC x y x7 (s 3041) (by omega) (by omega) (by omega) (by omega) (show x + x7 ≤ 64 by omega)) ?_
  rintro _ _ ⟨c12, rfl, rfl, hC12, g13, k14, k15⟩
  show tt Zi d 156 (65, [some (.inr (.inl 30)), some (.inl x), some (.inl y), some (.inl (s 3041)), some (.inl x7), none], [], n, D, s, p, c12) _
  replace k14 : ∀ i : Nat, (i : Int) < (s 3039) + 64 * y + x ∨ (s 3039) + 64 * y + x + x7 ≤ i → (c12 44) i = (c 44) i := k14
  replace k15 : ∀ i : Nat, (s 3039) + 64 * y + x ≤ i → (i : Int) < (s 3039) + 64 * y + x + x7 → (c12 44) i = (s 3041) := k15
  have hx16 : wrl X.1 (s 3016) (s 3047) (s 3048) (c12 35) := by rw [g13 35 (by decide)]; exact hp12
  have hx17 : mrl X.2.1 (c12 36) (c12 37) (c12 38) (c12 39) := by rw [g13 36 (by decide), g13 37 (by decide), g13 38 (by decide), g13 39 (by decide)]; exact hp13
  have hfl : c12 44 = fil (c 44) (s 3039 + 64 * y + x).toNat x7 (nA X.2.2.2 x y) := by rw [← hp2]; exact fil_of (by omega) k14 k15
  clear k14 k15
  have htr := tr_fl (n := x7) (v := nA X.2.2.2 x y) hp10 (by omega) (by omega) (by omega) (by omega) (by omega) (by omega)
  rw [← hfl] at htr
  refine tt_k 2 (S' := (69, [some (.inr (.inl 30)), some (.inl x), some (.inl y), some (.inl (s 3041)), some (.inl x7), some (.inl x7)], [], n, D, s, p, c12)) rfl ?_
  refine x_tell_L69 (Zi := Zi) (D := D) (s := s) (p := p) (c := c12) hd hS hC12 (rP 65 x7 (s 3035) X.1) (s 3016 + x7) x y (s 3041) x7 (by omega) (by omega) (by omega) (by omega) (show (s 3016 + x7) + 200 ≤ 65535 by omega) ?_ _ x7 s c12 (by omega) hS fr_rf hC12 frc_rf hp5 ⟨X.1, 65, (by omega), hx16, rfl⟩ (show 0 ≤ ((s 3035)) ∧ ((s 3035)) ≤ 22 by omega) (show ((s 3016)) + x7 ≤ (s 3016 + x7) ∧ (s 3016) ≤ ((s 3016)) by omega) (Int.le_refl _) (Nat.lt_succ_self _)
  intro x18 s19 c20 b21 hS19 f22 hC20 g23 i24 i25 i26 i27 i28 hx29
  show tt Zi d 156 (114, [some (.inr (.inl 30)), some (.inl x), some (.inl y), some (.inl (s 3041)), some (.inl x7), some (.inl x18)], [], n, D, s19, p, c20) _
  have hc30 : mv s19 := mv_fr f22 (by decide) hp0
  have e31 : s19 3050 = (s 3050) := (f22 3050 (by decide))
  have b32 : 0 ≤ (s19 3050) ∧ (s19 3050) ≤ 8 := hS19 3050
  have b33 : 0 ≤ (s 3050) ∧ (s 3050) ≤ 8 := hS 3050
  have e34 : s19 3039 = (s 3039) := (f22 3039 (by decide))
  have b35 : 0 ≤ (s19 3039) ∧ (s19 3039) ≤ 8192 := hS19 3039
  have e36 : s19 3017 = (s 3017) := (f22 3017 (by decide))
  have b37 : 0 ≤ (s19 3017) ∧ (s19 3017) ≤ 65535 := hS19 3017
  have e38 : s19 3018 = (s 3018) := (f22 3018 (by decide))
  have b39 : -2147483648 ≤ (s19 3018) ∧ (s19 3018) ≤ 2147483647 := hS19 3018
  have e40 : s19 3037 = (s 3037) := (f22 3037 (by decide))
  have b41 : 0 ≤ (s19 3037) ∧ (s19 3037) ≤ 64 := hS19 3037
  have e42 : s19 3036 = (s 3036) := (f22 3036 (by decide))
  have b43 : 0 ≤ (s19 3036) ∧ (s19 3036) ≤ 1 := hS19 3036
  have b44 : 0 ≤ (s 3036) ∧ (s 3036) ≤ 1 := hS 3036
  have hx45 : zq Z (s19 3017) (s19 3018) (s19 3019) (s19 3020) (s19 3021) (s19 3022) (s19 3023) (s19 3024) (s19 3025) (s19 3026) := by rw [f22 3017 (by decide), f22 3018 (by decide), f22 3019 (by decide), f22 3020 (by decide), f22 3021 (by decide), f22 3022 (by decide), f22 3023 (by decide), f22 3024 (by decide), f22 3025 (by decide), f22 3026 (by decide)]; exact hp11
  have hx46 : mrl X.2.1 (c20 36) (c20 37) (c20 38) (c20 39) := by rw [g23 36 (by decide), g23 37 (by decide), g23 38 (by decide), g23 39 (by decide)]; exact hx17
  have hj2 := jj_bd i26
  obtain ⟨W2, hw2, hR2⟩ := rLp_e i25 (by omega) hx29
  have hR3 : rP 65 (rnX Z (s 3037) S y x X) X.2.2.1 X.1 = (x18, s19 3035, W2) := by rw [← hrn, ← hp9.2.2]; exact hR2
  refine tt_k 5 (S' := (122, [some (.inr (.inl 30)), some (.inl x), some (.inl y), some (.inl (s 3041)), some (.inl x7), some (.inl x18)], [.inl (s19 3037), .inl (x + x7)], n, D, s19, p, c20)) rfl ?_
  refine tb_ne (x := (x + x7)) (y := (s19 3037)) rfl rfl (by omega) (fun h47 => ?_) (fun h47 => ?_)
  · show tt Zi d 156 (138, [some (.inr (.inl 30)), some (.inl x), some (.inl y), some (.inl (s 3041)), some (.inl x7), some (.inl x18)], [], n, D, s19, p, c20) _
    refine tt_k 2 (S' := (140, [some (.inr (.inl 30)), some (.inl x), some (.inl y), some (.inl (s 3041)), some (.inl x7), some (.inl x18)], [.inl 0, .inr (.inl 30)], n, D, s19, p, c20)) rfl ?_
    have b48 : 0 ≤ (s19 3047) ∧ (s19 3047) ≤ 255 := hS19 3047
    have b49 : 0 ≤ (s19 3048) ∧ (s19 3048) ≤ 8 := hS19 3048
    have b50 : 0 ≤ (s19 3016) ∧ (s19 3016) ≤ 65536 := hS19 3016
    refine tt_cl (by omega) rfl (x_putBit (Zi := Zi) (D := D) (s := s19) (p := p) (c := c20) (by omega) hS19 hC20 W2 0 (by omega) i24 (show (s19 3016) ≤ 65535 by omega) hw2) ?_
    rintro _ _ ⟨s51, c52, rfl, rfl, hS51, hC52, f53, g54, k55, k56, k57⟩
    have hc58 : mv s51 := mv_fr f53 (by decide) hc30
    show tt Zi d 156 (143, [some (.inr (.inl 30)), some (.inl x), some (.inl y), some (.inl (s 3041)), some (.inl x7), some (.inl x18)], [], n, D, s51, p, c52) _
    replace k55 : w_ok ((s51 3047)) ((s51 3048)) := k55
    replace k56 : (s19 3016) ≤ (s51 3016) ∧ (s51 3016) ≤ (s19 3016) + 1 := k56
    replace k57 : wrl (wBit W2 0) ((s51 3016)) ((s51 3047)) ((s51 3048)) ((c52 35)) := k57
    have b59 : 0 ≤ (s51 3047) ∧ (s51 3047) ≤ 255 := hS51 3047
    have b60 : 0 ≤ (s51 3048) ∧ (s51 3048) ≤ 8 := hS51 3048
    have b61 : 0 ≤ (s51 3016) ∧ (s51 3016) ≤ 65536 := hS51 3016
    have e62 : s51 3050 = (s19 3050) := (f53 3050 (by decide))
    have b63 : 0 ≤ (s51 3050) ∧ (s51 3050) ≤ 8 := hS51 3050
    have e64 : s51 3039 = (s19 3039) := (f53 3039 (by decide))
    have b65 : 0 ≤ (s51 3039) ∧ (s51 3039) ≤ 8192 := hS51 3039
    have e66 : s51 3017 = (s19 3017) := (f53 3017 (by decide))
    have b67 : 0 ≤ (s51 3017) ∧ (s51 3017) ≤ 65535 := hS51 3017
    have e68 : s51 3018 = (s19 3018) := (f53 3018 (by decide))
    have b69 : -2147483648 ≤ (s51 3018) ∧ (s51 3018) ≤ 2147483647 := hS51 3018
    have e70 : s51 3037 = (s19 3037) := (f53 3037 (by decide))
    have b71 : 0 ≤ (s51 3037) ∧ (s51 3037) ≤ 64 := hS51 3037
    have e72 : s51 3035 = (s19 3035) := (f53 3035 (by decide))
    have b73 : 0 ≤ (s51 3035) ∧ (s51 3035) ≤ 31 := hS51 3035
    have b74 : 0 ≤ (s19 3035) ∧ (s19 3035) ≤ 31 := hS19 3035
    have e75 : s51 3036 = (s19 3036) := (f53 3036 (by decide))
    have b76 : 0 ≤ (s51 3036) ∧ (s51 3036) ≤ 1 := hS51 3036
    have hx77 : zq Z (s51 3017) (s51 3018) (s51 3019) (s51 3020) (s51 3021) (s51 3022) (s51 3023) (s51 3024) (s51 3025) (s51 3026) := by rw [f53 3017 (by decide), f53 3018 (by decide), f53 3019 (by decide), f53 3020 (by decide), f53 3021 (by decide), f53 3022 (by decide), f53 3023 (by decide), f53 3024 (by decide), f53 3025 (by decide), f53 3026 (by decide)]; exact hx45
    have hx78 : mrl X.2.1 (c52 36) (c52 37) (c52 38) (c52 39) := by rw [g54 36 (by decide), g54 37 (by decide), g54 38 (by decide), g54 39 (by decide)]; exact hx46
    refine tt_k 2 (S' := (145, [some (.inr (.inl 30)), some (.inl x), some (.inl y), some (.inl (s 3041)), some (.inl x7), some (.inl x18)], [.inr (.inl 30), .inr (.inl 30)], n, D, s51, p, c52)) rfl ?_
    refine tt_cl (by omega) rfl (k_piecesJ (Zi := Zi) (D := D) (s := s51) (p := p) (c := c52) (by omega) hS51 hC52 (show 0 ≤ (s51 3035) ∧ (s51 3035) ≤ 22 by omega)) ?_
    rintro _ _ ⟨r79, rfl, rfl, b80, k81⟩
    show tt Zi d 156 (148, [some (.inr (.inl 30)), some (.inl x), some (.inl y), some (.inl (s 3041)), some (.inl x7), some (.inl x18)], [.inl r79, .inr (.inl 30)], n, D, s51, p, c52) _
    replace k81 : r79 = jj ((s51 3035)) := k81
    refine tt_k 1 (S' := (150, [some (.inr (.inl 30)), some (.inl x), some (.inl y), some (.inl (s 3041)), some (.inl x7), some (.inl x18)], [.inl x18, .inl r79, .inr (.inl 30)], n, D, s51, p, c52)) rfl ?_
    refine tt_cl (by omega) rfl (x_putBits (Zi := Zi) (D := D) (s := s51) (p := p) (c := c52) (by omega) hS51 hC52 (wBit W2 0) r79 x18 (by omega) (by omega) k55 (show (s51 3016) + r79 ≤ 65535 by omega) (show r79 ≤ 32 ∨ x18 = 0 by omega) k57) ?_
    rintro _ _ ⟨s82, c83, rfl, rfl, hS82, hC83, f84, g85, k86, k87, k88⟩
    have hc89 : mv s82 := mv_fr f84 (by decide) hc58
    show tt Zi d 156 (153, [some (.inr (.inl 30)), some (.inl x), some (.inl y), some (.inl (s 3041)), some (.inl x7), some (.inl x18)], [], n, D, s82, p, c83) _
    replace k86 : w_ok ((s82 3047)) ((s82 3048)) := k86
    replace k87 : (s51 3016) ≤ (s82 3016) ∧ (s82 3016) ≤ (s51 3016) + r79 := k87
    replace k88 : wrl (wBits r79.toNat x18 (wBit W2 0)) ((s82 3016)) ((s82 3047)) ((s82 3048)) ((c83 35)) := k88
    have b90 : 0 ≤ (s82 3047) ∧ (s82 3047) ≤ 255 := hS82 3047
    have b91 : 0 ≤ (s82 3048) ∧ (s82 3048) ≤ 8 := hS82 3048
    have b92 : 0 ≤ (s82 3016) ∧ (s82 3016) ≤ 65536 := hS82 3016
    have e93 : s82 3050 = (s51 3050) := (f84 3050 (by decide))
    have b94 : 0 ≤ (s82 3050) ∧ (s82 3050) ≤ 8 := hS82 3050
    have e95 : s82 3039 = (s51 3039) := (f84 3039 (by decide))
    have b96 : 0 ≤ (s82 3039) ∧ (s82 3039) ≤ 8192 := hS82 3039
    have e97 : s82 3017 = (s51 3017) := (f84 3017 (by decide))
    have b98 : 0 ≤ (s82 3017) ∧ (s82 3017) ≤ 65535 := hS82 3017
    have e99 : s82 3018 = (s51 3018) := (f84 3018 (by decide))
    have b100 : -2147483648 ≤ (s82 3018) ∧ (s82 3018) ≤ 2147483647 := hS82 3018
    have e101 : s82 3037 = (s51 3037) := (f84 3037 (by decide))
    have b102 : 0 ≤ (s82 3037) ∧ (s82 3037) ≤ 64 := hS82 3037
    have e103 : s82 3035 = (s51 3035) := (f84 3035 (by decide))
    have b104 : 0 ≤ (s82 3035) ∧ (s82 3035) ≤ 31 := hS82 3035
    have e105 : s82 3036 = (s51 3036) := (f84 3036 (by decide))
    have b106 : 0 ≤ (s82 3036) ∧ (s82 3036) ≤ 1 := hS82 3036
    have hx107 : zq Z (s82 3017) (s82 3018) (s82 3019) (s82 3020) (s82 3021) (s82 3022) (s82 3023) (s82 3024) (s82 3025) (s82 3026) := by rw [f84 3017 (by decide), f84 3018 (by decide), f84 3019 (by decide), f84 3020 (by decide), f84 3021 (by decide), f84 3022 (by decide), f84 3023 (by decide), f84 3024 (by decide), f84 3025 (by decide), f84 3026 (by decide)]; exact hx77
    have hx108 : mrl X.2.1 (c83 36) (c83 37) (c83 38) (c83 39) := by rw [g85 36 (by decide), g85 37 (by decide), g85 38 (by decide), g85 39 (by decide)]; exact hx78
    refine tt_k 6 (S' := (160, [some (.inr (.inl 30)), some (.inl x), some (.inl y), some (.inl (s 3041)), some (.inl x7), some (.inl x18)], [.inl (s 3041), .inl y, .inl (x + x7), .inr (.inl 30)], n, D, s82, p, c83)) rfl ?_
    have aQ : s82 3025 = s 3025 := ((f84 3025 (by decide)).trans ((f53 3025 (by decide)).trans (f22 3025 (by decide))))
    have aW : s82 3037 = s 3037 := ((f84 3037 (by decide)).trans ((f53 3037 (by decide)).trans (f22 3037 (by decide))))
    have aB : s82 3039 = s 3039 := ((f84 3039 (by decide)).trans ((f53 3039 (by decide)).trans (f22 3039 (by decide))))
    have aM : s82 3017 = s 3017 := ((f84 3017 (by decide)).trans ((f53 3017 (by decide)).trans (f22 3017 (by decide))))
    have aT : s82 3036 = s 3036 := ((f84 3036 (by decide)).trans ((f53 3036 (by decide)).trans (f22 3036 (by decide))))
    have aF : s82 3050 = s 3050 := ((f84 3050 (by decide)).trans ((f53 3050 (by decide)).trans (f22 3050 (by decide))))
    have r36 : c83 36 = c 36 := ((g85 36 (by decide)).trans ((g54 36 (by decide)).trans ((g23 36 (by decide)).trans (g13 36 (by decide)))))
    have r37 : c83 37 = c 37 := ((g85 37 (by decide)).trans ((g54 37 (by decide)).trans ((g23 37 (by decide)).trans (g13 37 (by decide)))))
    have r38 : c83 38 = c 38 := ((g85 38 (by decide)).trans ((g54 38 (by decide)).trans ((g23 38 (by decide)).trans (g13 38 (by decide)))))
    have r39 : c83 39 = c 39 := ((g85 39 (by decide)).trans ((g54 39 (by decide)).trans ((g23 39 (by decide)).trans (g13 39 (by decide)))))
    have r31 : c83 31 = c 31 := ((g85 31 (by decide)).trans ((g54 31 (by decide)).trans ((g23 31 (by decide)).trans (g13 31 (by decide)))))
    have r44 : c83 44 = c12 44 := (g85 44 (by decide)).trans ((g54 44 (by decide)).trans (g23 44 (by decide)))
    have eP : s82 3035 = s19 3035 := by omega
    have hsl : x + (rnX Z (s 3037) S y x X) < s 3037 := by omega
    have hns := stX_n hp15 hp14 (by omega) (by omega) (by omega) hp8 hp16 hsl
    have hSx := hp8 (x + x7) (by omega) (by omega)
    have hsx : c83 31 (s82 3039 + 64 * y + (x + x7)).toNat = S (x + x7) := by rw [r31, aB]; have h := hp7 (x + x7) (by omega) (by omega); exact h
    have htb := tb_tr htr (tb_fil (n := x7) (v := nA X.2.2.2 x y) hp14.2.1 (by omega) (by omega) (by omega) (by omega) (by omega) hna)
    have hbf : nB (fil X.2.2.2 (64 * y + x).toNat x7 (nA X.2.2.2 x y)) (x + x7) y = nB X.2.2.2 (x + x7) y := nB_fil (by omega) (by omega)
    have hjr : r79 = jj (s19 3035) := k81.trans (congrArg jj (by omega))
    have b109 : -2147483648 ≤ (s82 3019) ∧ (s82 3019) ≤ 2147483647 := hS82 3019
    have b110 : -2147483648 ≤ (s82 3020) ∧ (s82 3020) ≤ 2147483647 := hS82 3020
    have b111 : -2147483648 ≤ (s82 3021) ∧ (s82 3021) ≤ 2147483647 := hS82 3021
    have b112 : 0 ≤ (s82 3022) ∧ (s82 3022) ≤ 65535 := hS82 3022
    have b113 : -2147483648 ≤ (s82 3023) ∧ (s82 3023) ≤ 2147483647 := hS82 3023
    have b114 : -2147483648 ≤ (s82 3024) ∧ (s82 3024) ≤ 2147483647 := hS82 3024
    have b115 : 0 ≤ (s82 3025) ∧ (s82 3025) ≤ 31 := hS82 3025
    have b116 : 0 ≤ (s82 3026) ∧ (s82 3026) ≤ 96 := hS82 3026
    refine tt_cl (by omega) rfl (x_stop (Zi := Zi) (D := D) (s := s82) (p := p) (c := c83) (by omega) hS82 hC83 (t + x7) Z (wBits r79.toNat x18 (wBit W2 0)) X.2.1 (fil X.2.2.2 (64 * y + x).toNat x7 (nA X.2.2.2 x y)) (x + x7) y (s 3041) (by omega) (by omega) (by omega) hc89 (show (s82 3036) = 1 ∧ (s82 3050) = 0 ∧ (x + x7) < (s82 3037) by omega) (show (s 3041) ≤ (s82 3017) by omega) (pl_mono (pl_eq aQ r36 r37 r38 r39 hp3) (show t ≤ t + x7 by omega)) (by omega) k86 (show (s82 3016) + 100 ≤ 65535 by omega) (by rw [hsx, aM]; omega) (show 0 ≤ (s82 3035) ∧ (s82 3035) ≤ 22 by omega) hx107 k88 hx108 (by rw [hbf, hsx, hrn, hp2]; exact hns.1) (by rw [aW, aB, aM, r44]; rw [z0]; exact htb) (by rw [aW, aB, r44]; exact htr) (by rw [r37]; exact hB37)) ?_
    rintro _ _ ⟨s117, c118, rfl, rfl, hS117, hC118, f119, g120, k121, k122, k123, k124, k125, k126⟩
    have hc127 : mv s117 := mv_fr f119 (by decide) hc89
    show tt Zi d 156 (163, [some (.inr (.inl 30)), some (.inl x), some (.inl y), some (.inl (s 3041)), some (.inl x7), some (.inl x18)], [], n, D, s117, p, c118) _
    replace k121 : w_ok ((s117 3047)) ((s117 3048)) := k121
    replace k122 : (s82 3016) ≤ (s117 3016) ∧ (s117 3016) ≤ (s82 3016) + 96 := k122
    replace k123 : wrl (wNum (wBits r79.toNat x18 (wBit W2 0)) (nS Z (s 3041) (nB (fil X.2.2.2 (64 * y + x).toNat x7 (nA X.2.2.2 x y)) (x + x7) y) ((c83 31) ((s82 3039) + 64 * y + (x + x7)).toNat) X.2.1) (kS X.2.1 (sS Z (s 3041) (nB (fil X.2.2.2 (64 * y + x).toNat x7 (nA X.2.2.2 x y)) (x + x7) y))) (Z 3026 - 1 - jj ((s82 3035)) - Z 3025 - 1) (Z 3025)) ((s117 3016)) ((s117 3047)) ((s117 3048)) ((c118 35)) := k123
    replace k124 : mrl (mStp Z X.2.1 (365 + sS Z (s 3041) (nB (fil X.2.2.2 (64 * y + x).toNat x7 (nA X.2.2.2 x y)) (x + x7) y)).toNat (eS Z (s 3041) (nB (fil X.2.2.2 (64 * y + x).toNat x7 (nA X.2.2.2 x y)) (x + x7) y) ((c83 31) ((s82 3039) + 64 * y + (x + x7)).toNat)) ((nS Z (s 3041) (nB (fil X.2.2.2 (64 * y + x).toNat x7 (nA X.2.2.2 x y)) (x + x7) y) ((c83 31) ((s82 3039) + 64 * y + (x + x7)).toNat) X.2.1 + 1 - sS Z (s 3041) (nB (fil X.2.2.2 (64 * y + x).toNat x7 (nA X.2.2.2 x y)) (x + x7) y)) / 2)) ((c118 36)) ((c118 37)) ((c118 38)) ((c118 39)) := k124
    replace k125 : (c118 44) = ua ((c83 44)) ((s82 3039) + 64 * y + (x + x7)).toNat (rR Z (gS Z (s 3041) (nB (fil X.2.2.2 (64 * y + x).toNat x7 (nA X.2.2.2 x y)) (x + x7) y)) (tS Z (s 3041) (nB (fil X.2.2.2 (64 * y + x).toNat x7 (nA X.2.2.2 x y)) (x + x7) y)) (eS Z (s 3041) (nB (fil X.2.2.2 (64 * y + x).toNat x7 (nA X.2.2.2 x y)) (x + x7) y) ((c83 31) ((s82 3039) + 64 * y + (x + x7)).toNat))) := k125
    replace k126 : (s117 3035) = (if 0 < (s82 3035) then (s82 3035) - 1 else 0) := k126
    have b128 : 0 ≤ (s117 3047) ∧ (s117 3047) ≤ 255 := hS117 3047
    have b129 : 0 ≤ (s117 3048) ∧ (s117 3048) ≤ 8 := hS117 3048
    have b130 : 0 ≤ (s117 3016) ∧ (s117 3016) ≤ 65536 := hS117 3016
    have b131 : 0 ≤ (s117 3035) ∧ (s117 3035) ≤ 31 := hS117 3035
    have e132 : s117 3050 = (s82 3050) := (f119 3050 (by decide))
    have b133 : 0 ≤ (s117 3050) ∧ (s117 3050) ≤ 8 := hS117 3050
    have e134 : s117 3039 = (s82 3039) := (f119 3039 (by decide))
    have b135 : 0 ≤ (s117 3039) ∧ (s117 3039) ≤ 8192 := hS117 3039
    have e136 : s117 3017 = (s82 3017) := (f119 3017 (by decide))
    have b137 : 0 ≤ (s117 3017) ∧ (s117 3017) ≤ 65535 := hS117 3017
    have e138 : s117 3018 = (s82 3018) := (f119 3018 (by decide))
    have b139 : -2147483648 ≤ (s117 3018) ∧ (s117 3018) ≤ 2147483647 := hS117 3018
    have e140 : s117 3037 = (s82 3037) := (f119 3037 (by decide))
    have b141 : 0 ≤ (s117 3037) ∧ (s117 3037) ≤ 64 := hS117 3037
    have e142 : s117 3036 = (s82 3036) := (f119 3036 (by decide))
    have b143 : 0 ≤ (s117 3036) ∧ (s117 3036) ≤ 1 := hS117 3036
    have hx144 : zq Z (s117 3017) (s117 3018) (s117 3019) (s117 3020) (s117 3021) (s117 3022) (s117 3023) (s117 3024) (s117 3025) (s117 3026) := by rw [f119 3017 (by decide), f119 3018 (by decide), f119 3019 (by decide), f119 3020 (by decide), f119 3021 (by decide), f119 3022 (by decide), f119 3023 (by decide), f119 3024 (by decide), f119 3025 (by decide), f119 3026 (by decide)]; exact hx107
    refine tt_k 3 (S' := (167, [some (.inr (.inl 30)), some (.inl x), some (.inl y), some (.inl (s 3041)), some (.inl x7), some (.inl x18)], [.inl (x7 + 1)], n, D, s117, p, c118)) rfl ?_
    have hru : (ruX Z (s 3037) S y x X) = xStp Z (S (x + (rnX Z (s 3037) S y x X))) (nA X.2.2.2 x y) (nB X.2.2.2 (x + (rnX Z (s 3037) S y x X)) y) (64 * y + (x + (rnX Z (s 3037) S y x X))).toNat (rX Z (s 3037) S y x X) := by unfold ruX; rw [if_pos hsl]
    have hru2 : ruN Z (s 3037) S y x X = (rnX Z (s 3037) S y x X) + 1 := by unfold ruN; rw [if_pos hsl]
    have hxw : (rX Z (s 3037) S y x X).1 = wBits (jj (s19 3035)).toNat x18 (wBit W2 0) := by show xW x (rnX Z (s 3037) S y x X) (s 3037) (rP 65 (rnX Z (s 3037) S y x X) X.2.2.1 X.1) = _; rw [hR3]; unfold xW; rw [if_pos hsl]
    have hxp : (rX Z (s 3037) S y x X).2.2.1 = s19 3035 := by show (rP 65 (rnX Z (s 3037) S y x X) X.2.2.1 X.1).2.1 = _; rw [hR3]
    exact tt_rti rfl rfl ⟨s117, c118, (x7 + 1), rfl, rfl, hS117, hC118, (fr_tr (fr_tr (fr_tr (fr_tr fr_rf f22 (by decide)) f53 (by decide)) f84 (by decide)) f119 (by decide)), (frc_tr (frc_tr (frc_tr (frc_tr (frc_tr frc_rf g13 (by decide)) g23 (by decide)) g54 (by decide)) g85 (by decide)) g120 (by decide)), by omega, k121, by show s 3016 ≤ (s117 3016) ∧ (s117 3016) ≤ s 3016 + 250; omega, by show wrl (ruX Z (s 3037) S y x X).1 ((s117 3016)) ((s117 3047)) ((s117 3048)) ((c118 35)); have h := k123; rw [hbf, hsx, hp2, hjr, eP, ← hxw, ← hxp, hrn] at h; rw [hru]; exact h, by show mrl (ruX Z (s 3037) S y x X).2.1 ((c118 36)) ((c118 37)) ((c118 38)) ((c118 39)); have h := k124; rw [hbf, hsx, hp2, hrn] at h; rw [hru]; exact h, by show (s117 3035) = (ruX Z (s 3037) S y x X).2.2.1; have h := k126; rw [eP, ← hxp] at h; rw [hru]; exact h, by show trl (ruX Z (s 3037) S y x X).2.2.2 ((s117 3039)) ((s117 3037)) (x + (x7 + 1)) y ((c118 44)); have h := tr_st (v := rR Z (gS Z (nA X.2.2.2 x y) (nB X.2.2.2 (x + x7) y)) (tS Z (nA X.2.2.2 x y) (nB X.2.2.2 (x + x7) y)) (eS Z (nA X.2.2.2 x y) (nB X.2.2.2 (x + x7) y) (S (x + x7)))) htr (by omega) (by omega) (by omega) (by omega); rw [hru, k125, hbf, hsx, hp2, r44, aB, show s117 3039 = s 3039 from ((f119 3039 (by decide)).trans ((f84 3039 (by decide)).trans ((f53 3039 (by decide)).trans (f22 3039 (by decide))))), show s117 3037 = s 3037 from ((f119 3037 (by decide)).trans ((f84 3037 (by decide)).trans ((f53 3037 (by decide)).trans (f22 3037 (by decide))))), show x + (x7 + 1) = x + x7 + 1 by omega]; rw [hrn] at h ⊢; exact h, by show (x7 + 1) = ruN Z (s 3037) S y x X; rw [hru2, hrn]⟩
  · show tt Zi d 156 (125, [some (.inr (.inl 30)), some (.inl x), some (.inl y), some (.inl (s 3041)), some (.inl x7), some (.inl x18)], [], n, D, s19, p, c20) _
    refine tt_k 1 (S' := (127, [some (.inr (.inl 30)), some (.inl x), some (.inl y), some (.inl (s 3041)), some (.inl x7), some (.inl x18)], [.inl x18], n, D, s19, p, c20)) rfl ?_
    refine tz_le (x := x18) rfl rfl (by omega) (fun h145 => ?_) (fun h145 => ?_)
    · show tt Zi d 156 (135, [some (.inr (.inl 30)), some (.inl x), some (.inl y), some (.inl (s 3041)), some (.inl x7), some (.inl x18)], [], n, D, s19, p, c20) _
      refine tt_k 1 (S' := (137, [some (.inr (.inl 30)), some (.inl x), some (.inl y), some (.inl (s 3041)), some (.inl x7), some (.inl x18)], [.inl x7], n, D, s19, p, c20)) rfl ?_
      have hru : (ruX Z (s 3037) S y x X) = (rX Z (s 3037) S y x X) := by unfold ruX; rw [if_neg (by omega)]
      have hru2 : ruN Z (s 3037) S y x X = (rnX Z (s 3037) S y x X) := by unfold ruN; rw [if_neg (by omega)]
      have r44 : c20 44 = c12 44 := (g23 44 (by decide))
      have hxw : (rX Z (s 3037) S y x X).1 = W2 := by show xW x (rnX Z (s 3037) S y x X) (s 3037) (rP 65 (rnX Z (s 3037) S y x X) X.2.2.1 X.1) = _; rw [hR3]; unfold xW; rw [if_neg (by omega), if_neg (by show ¬ 0 < x18; omega)]
      have hxp : (rX Z (s 3037) S y x X).2.2.1 = s19 3035 := by show (rP 65 (rnX Z (s 3037) S y x X) X.2.2.1 X.1).2.1 = _; rw [hR3]
      exact tt_rti rfl rfl ⟨s19, c20, x7, rfl, rfl, hS19, hC20, (fr_tr fr_rf f22 (by decide)), (frc_tr (frc_tr frc_rf g13 (by decide)) g23 (by decide)), by omega, i24, by show s 3016 ≤ (s19 3016) ∧ (s19 3016) ≤ s 3016 + 250; omega, by show wrl (ruX Z (s 3037) S y x X).1 ((s19 3016)) ((s19 3047)) ((s19 3048)) ((c20 35)); rw [hru, hxw]; exact hw2, by show mrl (ruX Z (s 3037) S y x X).2.1 ((c20 36)) ((c20 37)) ((c20 38)) ((c20 39)); rw [hru]; exact hx46, by show (s19 3035) = (ruX Z (s 3037) S y x X).2.2.1; have h := hxp; rw [← hru] at h; omega, by show trl (ruX Z (s 3037) S y x X).2.2.2 ((s19 3039)) ((s19 3037)) (x + x7) y ((c20 44)); rw [hru, r44, show s19 3039 = s 3039 from (f22 3039 (by decide)), show s19 3037 = s 3037 from (f22 3037 (by decide))]; have h := htr; rw [hrn] at h ⊢; exact h, by show x7 = ruN Z (s 3037) S y x X; rw [hru2]; exact hrn⟩
    · show tt Zi d 156 (130, [some (.inr (.inl 30)), some (.inl x), some (.inl y), some (.inl (s 3041)), some (.inl x7), some (.inl x18)], [], n, D, s19, p, c20) _
      refine tt_k 2 (S' := (132, [some (.inr (.inl 30)), some (.inl x), some (.inl y), some (.inl (s 3041)), some (.inl x7), some (.inl x18)], [.inl 1, .inr (.inl 30)], n, D, s19, p, c20)) rfl ?_
      have b146 : 0 ≤ (s19 3047) ∧ (s19 3047) ≤ 255 := hS19 3047
      have b147 : 0 ≤ (s19 3048) ∧ (s19 3048) ≤ 8 := hS19 3048
      have b148 : 0 ≤ (s19 3016) ∧ (s19 3016) ≤ 65536 := hS19 3016
      refine tt_cl (by omega) rfl (x_putBit (Zi := Zi) (D := D) (s := s19) (p := p) (c := c20) (by omega) hS19 hC20 W2 1 (by omega) i24 (show (s19 3016) ≤ 65535 by omega) hw2) ?_
      rintro _ _ ⟨s149, c150, rfl, rfl, hS149, hC150, f151, g152, k153, k154, k155⟩
      have hc156 : mv s149 := mv_fr f151 (by decide) hc30
      show tt Zi d 156 (135, [some (.inr (.inl 30)), some (.inl x), some (.inl y), some (.inl (s 3041)), some (.inl x7), some (.inl x18)], [], n, D, s149, p, c150) _
      replace k153 : w_ok ((s149 3047)) ((s149 3048)) := k153
      replace k154 : (s19 3016) ≤ (s149 3016) ∧ (s149 3016) ≤ (s19 3016) + 1 := k154
      replace k155 : wrl (wBit W2 1) ((s149 3016)) ((s149 3047)) ((s149 3048)) ((c150 35)) := k155
      have b157 : 0 ≤ (s149 3047) ∧ (s149 3047) ≤ 255 := hS149 3047
      have b158 : 0 ≤ (s149 3048) ∧ (s149 3048) ≤ 8 := hS149 3048
      have b159 : 0 ≤ (s149 3016) ∧ (s149 3016) ≤ 65536 := hS149 3016
      have e160 : s149 3050 = (s19 3050) := (f151 3050 (by decide))
      have b161 : 0 ≤ (s149 3050) ∧ (s149 3050) ≤ 8 := hS149 3050
      have e162 : s149 3039 = (s19 3039) := (f151 3039 (by decide))
      have b163 : 0 ≤ (s149 3039) ∧ (s149 3039) ≤ 8192 := hS149 3039
      have e164 : s149 3017 = (s19 3017) := (f151 3017 (by decide))
      have b165 : 0 ≤ (s149 3017) ∧ (s149 3017) ≤ 65535 := hS149 3017
      have e166 : s149 3018 = (s19 3018) := (f151 3018 (by decide))
      have b167 : -2147483648 ≤ (s149 3018) ∧ (s149 3018) ≤ 2147483647 := hS149 3018
      have e168 : s149 3037 = (s19 3037) := (f151 3037 (by decide))
      have b169 : 0 ≤ (s149 3037) ∧ (s149 3037) ≤ 64 := hS149 3037
      have e170 : s149 3035 = (s19 3035) := (f151 3035 (by decide))
      have b171 : 0 ≤ (s149 3035) ∧ (s149 3035) ≤ 31 := hS149 3035
      have b172 : 0 ≤ (s19 3035) ∧ (s19 3035) ≤ 31 := hS19 3035
      have e173 : s149 3036 = (s19 3036) := (f151 3036 (by decide))
      have b174 : 0 ≤ (s149 3036) ∧ (s149 3036) ≤ 1 := hS149 3036
      have hx175 : zq Z (s149 3017) (s149 3018) (s149 3019) (s149 3020) (s149 3021) (s149 3022) (s149 3023) (s149 3024) (s149 3025) (s149 3026) := by rw [f151 3017 (by decide), f151 3018 (by decide), f151 3019 (by decide), f151 3020 (by decide), f151 3021 (by decide), f151 3022 (by decide), f151 3023 (by decide), f151 3024 (by decide), f151 3025 (by decide), f151 3026 (by decide)]; exact hx45
      have hx176 : mrl X.2.1 (c150 36) (c150 37) (c150 38) (c150 39) := by rw [g152 36 (by decide), g152 37 (by decide), g152 38 (by decide), g152 39 (by decide)]; exact hx46
      refine tt_k 1 (S' := (137, [some (.inr (.inl 30)), some (.inl x), some (.inl y), some (.inl (s 3041)), some (.inl x7), some (.inl x18)], [.inl x7], n, D, s149, p, c150)) rfl ?_
      have hru : (ruX Z (s 3037) S y x X) = (rX Z (s 3037) S y x X) := by unfold ruX; rw [if_neg (by omega)]
      have hru2 : ruN Z (s 3037) S y x X = (rnX Z (s 3037) S y x X) := by unfold ruN; rw [if_neg (by omega)]
      have r44 : c150 44 = c12 44 := ((g152 44 (by decide)).trans (g23 44 (by decide)))
      have hxw : (rX Z (s 3037) S y x X).1 = (wBit W2 1) := by show xW x (rnX Z (s 3037) S y x X) (s 3037) (rP 65 (rnX Z (s 3037) S y x X) X.2.2.1 X.1) = _; rw [hR3]; unfold xW; rw [if_neg (by omega), if_pos (by show 0 < x18; omega)]
      have hxp : (rX Z (s 3037) S y x X).2.2.1 = s19 3035 := by show (rP 65 (rnX Z (s 3037) S y x X) X.2.2.1 X.1).2.1 = _; rw [hR3]
      exact tt_rti rfl rfl ⟨s149, c150, x7, rfl, rfl, hS149, hC150, (fr_tr (fr_tr fr_rf f22 (by decide)) f151 (by decide)), (frc_tr (frc_tr (frc_tr frc_rf g13 (by decide)) g23 (by decide)) g152 (by decide)), by omega, k153, by show s 3016 ≤ (s149 3016) ∧ (s149 3016) ≤ s 3016 + 250; omega, by show wrl (ruX Z (s 3037) S y x X).1 ((s149 3016)) ((s149 3047)) ((s149 3048)) ((c150 35)); rw [hru, hxw]; exact k155, by show mrl (ruX Z (s 3037) S y x X).2.1 ((c150 36)) ((c150 37)) ((c150 38)) ((c150 39)); rw [hru]; exact hx176, by show (s149 3035) = (ruX Z (s 3037) S y x X).2.2.1; have h := hxp; rw [← hru] at h; omega, by show trl (ruX Z (s 3037) S y x X).2.2.2 ((s149 3039)) ((s149 3037)) (x + x7) y ((c150 44)); rw [hru, r44, show s149 3039 = s 3039 from ((f151 3039 (by decide)).trans (f22 3039 (by decide))), show s149 3037 = s 3037 from ((f151 3037 (by decide)).trans (f22 3037 (by decide)))]; have h := htr; rw [hrn] at h ⊢; exact h, by show x7 = ruN Z (s 3037) S y x X; rw [hru2]; exact hrn⟩
