/-! the reference reads a plane, exactly -/
def rpR (A : TN) (Z : Nat → Int) (R : Option XR) (w h y x pc : Int) (d : RDT) (base : Int) (fa fb fc fn ft : Nat → Int) : Prop := ∃ X : XR, plJ A Z w h R y x X ∧ d = X.1 ∧ mrl X.2.1 fa fb fc fn ∧ pc = X.2.2.1 ∧ trl X.2.2.2 base w x y ft
section STR
variable {A : TN} {Z : Nat → Int} {w y x : Int} {X X1 : XR}
theorem stR_r (hg : gsT Z w y x X.2.2.2 ≠ 0) (h : rReg A Z (nA X.2.2.2 x y) (nB X.2.2.2 x y) (nC X.2.2.2 x y) (if gsT Z w y x X.2.2.2 < 0 then 1 else 0) (fA (gsT Z w y x X.2.2.2)).toNat (64 * y + x).toNat X = some X1) : stR A Z w y x X = some (1, X1) := by
  unfold stR
  rw [if_neg hg, h, bd_s]
theorem stR_rn (hg : gsT Z w y x X.2.2.2 ≠ 0) (h : rReg A Z (nA X.2.2.2 x y) (nB X.2.2.2 x y) (nC X.2.2.2 x y) (if gsT Z w y x X.2.2.2 < 0 then 1 else 0) (fA (gsT Z w y x X.2.2.2)).toNat (64 * y + x).toNat X = none) : stR A Z w y x X = none := by
  unfold stR
  rw [if_neg hg, h, bd_n]
end STR
set_option maxRecDepth 100000 in
set_option maxHeartbeats 4000000 in
theorem v_plane_L23 {Zi : Nat → Option (Nat × (Nat → Int))} {d n : Nat} {D : Nat → Nat × Nat} {s : Nat → Int} {p : Nat → Nat} {c : Nat → Nat → Int}  {Q : mi_Rs → mi_H → Prop} (hd : 7 ≤ d) (hS : bS s) (hC : bC D c) (Z : Nat → Int) (A : TN) (R : Option XR) (y : Int) (b_y : 0 ≤ y ∧ y ≤ 63) (hq0 : zq Z (s 3017) (s 3018) (s 3019) (s 3020) (s 3021) (s 3022) (s 3023) (s 3024) (s 3025) (s 3026)) (hq1 : mv Z) (hq2 : tpl A (s 3014) (c 34)) (hq3 : s 3036 = 0 ∧ 1 ≤ s 3037) (hq4 : y < s 3038 ∧ s 3038 ≤ 64)
  (hK : ∀ (x : Int) (o_3 : Option mi_V) (o_4 : Option mi_V) (o_5 : Option mi_V) (o_6 : Option mi_V) (s0 : Nat → Int) (c0 : Nat → Nat → Int) (b_x : 0 ≤ x ∧ x ≤ 64) (hS0 : bS s0) (hF0 : fr s s0 [3035, 3041, 3042, 3043, 3044, 3045, 3046, 3049, 3050, 3051, 3052, 3053, 3054]) (hC0 : bC D c0) (hG0 : frc c c0 [36, 37, 38, 39, 44]) (i0 : s0 3050 = 0 → rpR A Z R (s 3037) (s 3038) y x (s0 3035) (s0 3049, s0 3052, s0 3054) (s 3039) (c0 36) (c0 37) (c0 38) (c0 39) (c0 44)) (i1 : s0 3050 ≠ 0 → R = none) (i2 : s0 3050 = 0 → (0 ≤ s0 3054 ∧ s0 3054 ≤ 8) ∧ (0 ≤ s0 3052 ∧ s0 3052 ≤ 255)) (i3 : s0 3050 = 0 → s0 3049 ≤ s 3014) (i4 : s0 3050 = 0 → ofr (s 3039) (c 44) (c0 44)) (i5 : x ≤ s 3037), (s0 3050 = 0 → s 3037 ≤ x) → tt Zi d 150 (204, [some (.inr (.inl 30)), some (.inl y), some (.inl x), o_3, o_4, o_5, o_6], [], n, D, s0, p, c0) Q) :
  ∀ (m : Nat) (x : Int) (o_3 : Option mi_V) (o_4 : Option mi_V) (o_5 : Option mi_V) (o_6 : Option mi_V) (s0 : Nat → Int) (c0 : Nat → Nat → Int) (b_x : 0 ≤ x ∧ x ≤ 64) (hS0 : bS s0) (hF0 : fr s s0 [3035, 3041, 3042, 3043, 3044, 3045, 3046, 3049, 3050, 3051, 3052, 3053, 3054]) (hC0 : bC D c0) (hG0 : frc c c0 [36, 37, 38, 39, 44]) (i0 : s0 3050 = 0 → rpR A Z R (s 3037) (s 3038) y x (s0 3035) (s0 3049, s0 3052, s0 3054) (s 3039) (c0 36) (c0 37) (c0 38) (c0 39) (c0 44)) (i1 : s0 3050 ≠ 0 → R = none) (i2 : s0 3050 = 0 → (0 ≤ s0 3054 ∧ s0 3054 ≤ 8) ∧ (0 ≤ s0 3052 ∧ s0 3052 ≤ 255)) (i3 : s0 3050 = 0 → s0 3049 ≤ s 3014) (i4 : s0 3050 = 0 → ofr (s 3039) (c 44) (c0 44)) (i5 : x ≤ s 3037), (if s0 3050 = 0 then s 3037 - x + 1 else 0).toNat < m → tt Zi d 150 (23, [some (.inr (.inl 30)), some (.inl y), some (.inl x), o_3, o_4, o_5, o_6], [], n, D, s0, p, c0) Q := by
  intro m
  induction m with
  | zero => intro x o_3 o_4 o_5 o_6 s0 c0 b_x hS0 hF0 hC0 hG0 i0 i1 i2 i3 i4 i5 hm; exact absurd hm (by omega)
  | succ m ih =>
    intro x o_3 o_4 o_5 o_6 s0 c0 b_x hS0 hF0 hC0 hG0 i0 i1 i2 i3 i4 i5 hm
    have e1 : s0 3036 = s 3036 := hF0 3036 (by decide)
    have b2 : 0 ≤ (s0 3036) ∧ (s0 3036) ≤ 1 := hS0 3036
    have b3 : 0 ≤ (s 3036) ∧ (s 3036) ≤ 1 := hS 3036
    have e4 : s0 3037 = s 3037 := hF0 3037 (by decide)
    have b5 : 0 ≤ (s0 3037) ∧ (s0 3037) ≤ 64 := hS0 3037
    have b6 : 0 ≤ (s 3037) ∧ (s 3037) ≤ 64 := hS 3037
    have e7 : s0 3038 = s 3038 := hF0 3038 (by decide)
    have b8 : 0 ≤ (s0 3038) ∧ (s0 3038) ≤ 64 := hS0 3038
    have b9 : 0 ≤ (s 3038) ∧ (s 3038) ≤ 64 := hS 3038
    have e10 : s0 3017 = s 3017 := hF0 3017 (by decide)
    have b11 : 0 ≤ (s0 3017) ∧ (s0 3017) ≤ 65535 := hS0 3017
    have b12 : 0 ≤ (s 3017) ∧ (s 3017) ≤ 65535 := hS 3017
    have e13 : s0 3039 = s 3039 := hF0 3039 (by decide)
    have b14 : 0 ≤ (s0 3039) ∧ (s0 3039) ≤ 8192 := hS0 3039
    have b15 : 0 ≤ (s 3039) ∧ (s 3039) ≤ 8192 := hS 3039
    have e16 : s0 3014 = s 3014 := hF0 3014 (by decide)
    have b17 : 0 ≤ (s0 3014) ∧ (s0 3014) ≤ 32768 := hS0 3014
    have b18 : 0 ≤ (s 3014) ∧ (s 3014) ≤ 32768 := hS 3014
    have e19 : s0 3025 = s 3025 := hF0 3025 (by decide)
    have b20 : 0 ≤ (s0 3025) ∧ (s0 3025) ≤ 31 := hS0 3025
    have b21 : 0 ≤ (s 3025) ∧ (s 3025) ≤ 31 := hS 3025
    have hz0 : zq Z (s0 3017) (s0 3018) (s0 3019) (s0 3020) (s0 3021) (s0 3022) (s0 3023) (s0 3024) (s0 3025) (s0 3026) := by rw [hF0 3017 (by decide), hF0 3018 (by decide), hF0 3019 (by decide), hF0 3020 (by decide), hF0 3021 (by decide), hF0 3022 (by decide), hF0 3023 (by decide), hF0 3024 (by decide), hF0 3025 (by decide), hF0 3026 (by decide)]; exact hq0
    have hzc := hz0
    obtain ⟨z0, z1, z2, z3, z4, z5, z6, z7, z8, z9⟩ := hzc
    have mvx := mv_fx (s := Z) hq1
    have hmv0 : mv s0 := by have h := hq1; unfold mv at h ⊢; rw [z0, z1, z2, z3, z4, z5, z6, z7, z8, z9]; exact h
    have htp : tpl A (s0 3014) (c0 34) := by rw [hF0 3014 (by decide), hG0 34 (by decide)]; exact hq2
    have eB : s0 3039 = s 3039 := hF0 3039 (by decide)
    have eW : s0 3037 = s 3037 := hF0 3037 (by decide)
    have eHh : s0 3038 = s 3038 := hF0 3038 (by decide)
    have eT : s0 3036 = s 3036 := hF0 3036 (by decide)
    have eTP : s0 3014 = s 3014 := hF0 3014 (by decide)
    have b22 : 0 ≤ (s0 3049) ∧ (s0 3049) ≤ 32769 := hS0 3049
    have b23 : 0 ≤ (s0 3052) ∧ (s0 3052) ≤ 255 := hS0 3052
    have b24 : 0 ≤ (s0 3054) ∧ (s0 3054) ≤ 8 := hS0 3054
    have b25 : 0 ≤ (s0 3050) ∧ (s0 3050) ≤ 8 := hS0 3050
    have b26 : 0 ≤ (s0 3035) ∧ (s0 3035) ≤ 31 := hS0 3035
    refine tt_k 3 (S' := (28, [some (.inr (.inl 30)), some (.inl y), some (.inl x), o_3, o_4, o_5, o_6], [.inl (s0 3037), .inl x], n, D, s0, p, c0)) rfl ?_
    refine tb_ge (x := x) (y := (s0 3037)) rfl rfl (by omega) (fun h27 => ?_) (fun h27 => ?_)
    · show tt Zi d 150 (204, [some (.inr (.inl 30)), some (.inl y), some (.inl x), o_3, o_4, o_5, o_6], [], n, D, s0, p, c0) _
      exact hK x (o_3) (o_4) (o_5) (o_6) s0 c0 (by omega) hS0 hF0 hC0 hG0 i0 i1 i2 i3 i4 i5 (by intro hz; omega)
    · show tt Zi d 150 (31, [some (.inr (.inl 30)), some (.inl y), some (.inl x), o_3, o_4, o_5, o_6], [], n, D, s0, p, c0) _
      refine tt_k 2 (S' := (35, [some (.inr (.inl 30)), some (.inl y), some (.inl x), o_3, o_4, o_5, o_6], [.inl (s0 3050)], n, D, s0, p, c0)) rfl ?_
      refine tz_ne (x := (s0 3050)) rfl rfl (by omega) (fun h28 => ?_) (fun h28 => ?_)
      · show tt Zi d 150 (204, [some (.inr (.inl 30)), some (.inl y), some (.inl x), o_3, o_4, o_5, o_6], [], n, D, s0, p, c0) _
        exact hK x (o_3) (o_4) (o_5) (o_6) s0 c0 (by omega) hS0 hF0 hC0 hG0 i0 i1 i2 i3 i4 i5 (by intro hz; omega)
      · show tt Zi d 150 (38, [some (.inr (.inl 30)), some (.inl y), some (.inl x), o_3, o_4, o_5, o_6], [], n, D, s0, p, c0) _
        refine tt_k 3 (S' := (41, [some (.inr (.inl 30)), some (.inl y), some (.inl x), o_3, o_4, o_5, o_6], [.inl y, .inl x, .inr (.inl 30)], n, D, s0, p, c0)) rfl ?_
        obtain ⟨X, hI, hdd, hmr, hpc, htr⟩ := i0 (by omega)
        have hvX := hI.1
        have htr0 : trl X.2.2.2 (s0 3039) (s0 3037) x y (c0 44) := by rw [eB, eW]; exact htr
        have htb0 : tb (s0 3037) (s0 3039) (s0 3017) (c0 44) x y := by rw [z0]; exact tb_tr htr0 (by rw [eW]; exact hvX.2.1)
        have hpl0 : pl s0 (64 * y + x) c0 := pl_tr z8 hmr hvX.1
        refine tt_cl (by omega) rfl (y_neighbours (Zi := Zi) (D := D) (s := s0) (p := p) (c := c0) (by omega) hS0 hC0 X.2.2.2 x y (by omega) (by omega) (show x < (s0 3037) by omega) htb0 htr0) ?_
        rintro _ _ ⟨s29, rfl, rfl, hS29, f30, k31, k32, k33, k34, k35⟩
        have hc36 : mv s29 := mv_fr f30 (by decide) hmv0
        show tt Zi d 150 (44, [some (.inr (.inl 30)), some (.inl y), some (.inl x), o_3, o_4, o_5, o_6], [], n, D, s29, p, c0) _
        replace k31 : (0 ≤ (s29 3041) ∧ (s29 3041) ≤ (s0 3017)) ∧ (0 ≤ (s29 3042) ∧ (s29 3042) ≤ (s0 3017)) ∧ (0 ≤ (s29 3043) ∧ (s29 3043) ≤ (s0 3017)) ∧ (0 ≤ (s29 3044) ∧ (s29 3044) ≤ (s0 3017)) := k31
        replace k32 : (s29 3041) = nA X.2.2.2 x y := k32
        replace k33 : (s29 3042) = nB X.2.2.2 x y := k33
        replace k34 : (s29 3043) = nC X.2.2.2 x y := k34
        replace k35 : (s29 3044) = nD X.2.2.2 ((s0 3037)) x y := k35
        have b37 : 0 ≤ (s29 3041) ∧ (s29 3041) ≤ 65535 := hS29 3041
        have b38 : 0 ≤ (s29 3042) ∧ (s29 3042) ≤ 65535 := hS29 3042
        have b39 : 0 ≤ (s29 3043) ∧ (s29 3043) ≤ 65535 := hS29 3043
        have b40 : 0 ≤ (s29 3044) ∧ (s29 3044) ≤ 65535 := hS29 3044
        have e41 : s29 3050 = (s0 3050) := (f30 3050 (by decide))
        have b42 : 0 ≤ (s29 3050) ∧ (s29 3050) ≤ 8 := hS29 3050
        have e43 : s29 3036 = (s0 3036) := (f30 3036 (by decide))
        have b44 : 0 ≤ (s29 3036) ∧ (s29 3036) ≤ 1 := hS29 3036
        have e45 : s29 3037 = (s0 3037) := (f30 3037 (by decide))
        have b46 : 0 ≤ (s29 3037) ∧ (s29 3037) ≤ 64 := hS29 3037
        have e47 : s29 3038 = (s0 3038) := (f30 3038 (by decide))
        have b48 : 0 ≤ (s29 3038) ∧ (s29 3038) ≤ 64 := hS29 3038
        have e49 : s29 3017 = (s0 3017) := (f30 3017 (by decide))
        have b50 : 0 ≤ (s29 3017) ∧ (s29 3017) ≤ 65535 := hS29 3017
        have e51 : s29 3039 = (s0 3039) := (f30 3039 (by decide))
        have b52 : 0 ≤ (s29 3039) ∧ (s29 3039) ≤ 8192 := hS29 3039
        have e53 : s29 3035 = (s0 3035) := (f30 3035 (by decide))
        have b54 : 0 ≤ (s29 3035) ∧ (s29 3035) ≤ 31 := hS29 3035
        have e55 : s29 3049 = (s0 3049) := (f30 3049 (by decide))
        have b56 : 0 ≤ (s29 3049) ∧ (s29 3049) ≤ 32769 := hS29 3049
        have e57 : s29 3014 = (s0 3014) := (f30 3014 (by decide))
        have b58 : 0 ≤ (s29 3014) ∧ (s29 3014) ≤ 32768 := hS29 3014
        have e59 : s29 3052 = (s0 3052) := (f30 3052 (by decide))
        have b60 : 0 ≤ (s29 3052) ∧ (s29 3052) ≤ 255 := hS29 3052
        have e61 : s29 3054 = (s0 3054) := (f30 3054 (by decide))
        have b62 : 0 ≤ (s29 3054) ∧ (s29 3054) ≤ 8 := hS29 3054
        have e63 : s29 3025 = (s0 3025) := (f30 3025 (by decide))
        have b64 : 0 ≤ (s29 3025) ∧ (s29 3025) ≤ 31 := hS29 3025
        have hx65 : zq Z (s29 3017) (s29 3018) (s29 3019) (s29 3020) (s29 3021) (s29 3022) (s29 3023) (s29 3024) (s29 3025) (s29 3026) := by rw [f30 3017 (by decide), f30 3018 (by decide), f30 3019 (by decide), f30 3020 (by decide), f30 3021 (by decide), f30 3022 (by decide), f30 3023 (by decide), f30 3024 (by decide), f30 3025 (by decide), f30 3026 (by decide)]; exact hz0
        have hx66 : tpl A (s29 3014) (c0 34) := by rw [f30 3014 (by decide)]; exact htp
        have la : s29 3041 = (nA X.2.2.2 x y) := k32
        have lb : s29 3042 = (nB X.2.2.2 x y) := k33
        have lc : s29 3043 = (nC X.2.2.2 x y) := k34
        have ld : s29 3044 = (nD X.2.2.2 (s 3037) x y) := by have h := k35; rw [eW] at h; exact h
        clear k32 k33 k34 k35
        have vB_ : s29 3039 = s0 3039 := f30 3039 (by decide)
        have vW_ : s29 3037 = s0 3037 := f30 3037 (by decide)
        have vP_ : s29 3035 = s0 3035 := f30 3035 (by decide)
        have vQ_ : s29 3025 = s0 3025 := f30 3025 (by decide)
        have vM_ : s29 3017 = s0 3017 := f30 3017 (by decide)
        have vA_ : s29 3049 = s0 3049 := f30 3049 (by decide)
        have vN_ : s29 3052 = s0 3052 := f30 3052 (by decide)
        have vL_ : s29 3054 = s0 3054 := f30 3054 (by decide)
        have vT_ : s29 3014 = s0 3014 := f30 3014 (by decide)
        have hpl5 : pl s29 (64 * y + x) c0 := pl_eq vQ_ rfl rfl rfl rfl hpl0
        refine tt_k 6 (S' := (54, [some (.inr (.inl 30)), some (.inl y), some (.inl x), o_3, o_4, o_5, o_6], [.inl ((s29 3044) - (s29 3042)), .inr (.inl 30)], n, D, s29, p, c0)) rfl ?_
        have b67 : -2147483648 ≤ (s29 3018) ∧ (s29 3018) ≤ 2147483647 := hS29 3018
        have b68 : -2147483648 ≤ (s29 3019) ∧ (s29 3019) ≤ 2147483647 := hS29 3019
        have b69 : -2147483648 ≤ (s29 3020) ∧ (s29 3020) ≤ 2147483647 := hS29 3020
        have b70 : -2147483648 ≤ (s29 3021) ∧ (s29 3021) ≤ 2147483647 := hS29 3021
        have b71 : 0 ≤ (s29 3022) ∧ (s29 3022) ≤ 65535 := hS29 3022
        have b72 : -2147483648 ≤ (s29 3023) ∧ (s29 3023) ≤ 2147483647 := hS29 3023
        have b73 : -2147483648 ≤ (s29 3024) ∧ (s29 3024) ≤ 2147483647 := hS29 3024
        have b74 : 0 ≤ (s29 3026) ∧ (s29 3026) ≤ 96 := hS29 3026
        refine tt_cl (by omega) rfl (x_gradeOf (Zi := Zi) (D := D) (s := s29) (p := p) (c := c0) (by omega) hS29 hC0 Z ((s29 3044) - (s29 3042)) (by omega) hx65) ?_
        rintro _ _ ⟨r75, rfl, rfl, b76, k77⟩
        show tt Zi d 150 (57, [some (.inr (.inl 30)), some (.inl y), some (.inl x), o_3, o_4, o_5, o_6], [.inl r75], n, D, s29, p, c0) _
        replace k77 : r75 = fG Z ((s29 3044) - (s29 3042)) := k77
        have g0 : r75 = fG Z ((nD X.2.2.2 (s 3037) x y) - (nB X.2.2.2 x y)) := by rw [k77, ld, lb]
        clear k77
        refine tt_k 7 (S' := (68, [some (.inr (.inl 30)), some (.inl y), some (.inl x), some (.inl r75), o_4, o_5, o_6], [.inl ((s29 3042) - (s29 3043)), .inr (.inl 30)], n, D, s29, p, c0)) rfl ?_
        refine tt_cl (by omega) rfl (x_gradeOf (Zi := Zi) (D := D) (s := s29) (p := p) (c := c0) (by omega) hS29 hC0 Z ((s29 3042) - (s29 3043)) (by omega) hx65) ?_
        rintro _ _ ⟨r78, rfl, rfl, b79, k80⟩
        show tt Zi d 150 (71, [some (.inr (.inl 30)), some (.inl y), some (.inl x), some (.inl r75), o_4, o_5, o_6], [.inl r78], n, D, s29, p, c0) _
        replace k80 : r78 = fG Z ((s29 3042) - (s29 3043)) := k80
        have g1 : r78 = fG Z ((nB X.2.2.2 x y) - (nC X.2.2.2 x y)) := by rw [k80, lb, lc]
        clear k80
        refine tt_k 7 (S' := (83, [some (.inr (.inl 30)), some (.inl y), some (.inl x), some (.inl r75), some (.inl r78), o_5, o_6], [.inl ((s29 3043) - (s29 3041)), .inr (.inl 30)], n, D, s29, p, c0)) rfl ?_
        refine tt_cl (by omega) rfl (x_gradeOf (Zi := Zi) (D := D) (s := s29) (p := p) (c := c0) (by omega) hS29 hC0 Z ((s29 3043) - (s29 3041)) (by omega) hx65) ?_
        rintro _ _ ⟨r81, rfl, rfl, b82, k83⟩
        show tt Zi d 150 (86, [some (.inr (.inl 30)), some (.inl y), some (.inl x), some (.inl r75), some (.inl r78), o_5, o_6], [.inl r81], n, D, s29, p, c0) _
        replace k83 : r81 = fG Z ((s29 3043) - (s29 3041)) := k83
        have g2 : r81 = fG Z ((nC X.2.2.2 x y) - (nA X.2.2.2 x y)) := by rw [k83, lc, la]
        clear k83
        have hgs : (gsT Z (s 3037) y x X.2.2.2) = 81 * r75 + 9 * r78 + r81 := by unfold gsT gsm; rw [g0, g1, g2]
        refine tt_k 2 (S' := (89, [some (.inr (.inl 30)), some (.inl y), some (.inl x), some (.inl r75), some (.inl r78), some (.inl r81), o_6], [.inl r75], n, D, s29, p, c0)) rfl ?_
        refine tz_ne (x := r75) rfl rfl (by omega) (fun h84 => ?_) (fun h84 => ?_)
        · show tt Zi d 150 (130, [some (.inr (.inl 30)), some (.inl y), some (.inl x), some (.inl r75), some (.inl r78), some (.inl r81), o_6], [], n, D, s29, p, c0) _
          refine tt_k 2 (S' := (132, [some (.inr (.inl 30)), some (.inl y), some (.inl x), some (.inl r75), some (.inl r78), some (.inl r81), o_6], [.inl r75, .inr (.inl 30)], n, D, s29, p, c0)) rfl ?_
          have K86 : ∀ (j85 : Int) , (0 ≤ j85 ∧ j85 ≤ 1) → (j85 = (if (gsT Z (s 3037) y x X.2.2.2) < 0 then 1 else 0)) → (True) → tt Zi d 150 (159, [some (.inr (.inl 30)), some (.inl y), some (.inl x), some (.inl r75), some (.inl r78), some (.inl r81), o_6], [.inl j85, .inr (.inl 30)], n, D, s29, p, c0) Q := by
            intro j85 b88 b89 hj87
            refine tt_ptb (x := j85) rfl rfl rfl rfl rfl (by omega) ?_
            show tt Zi d 150 (162, [some (.inr (.inl 30)), some (.inl y), some (.inl x), some (.inl r75), some (.inl r78), some (.inl r81), o_6], [], n, D, (us s29 3046 j85), p, c0) _
            refine tt_k 14 (S' := (181, [some (.inr (.inl 30)), some (.inl y), some (.inl x), some (.inl r75), some (.inl r78), some (.inl r81), some (.inl ((((81 * r75) + (9 * r78)) + r81)))], [.inr (.inl 30), .inl y, .inl x, .inr (.inl 30)], n, D, (us s29 3046 j85), p, c0)) rfl ?_
            refine tt_k 1 (S' := (184, [some (.inr (.inl 30)), some (.inl y), some (.inl x), some (.inl r75), some (.inl r78), some (.inl r81), some (.inl ((((81 * r75) + (9 * r78)) + r81)))], [.inl j85, .inl y, .inl x, .inr (.inl 30)], n, D, (us s29 3046 j85), p, c0)) rfl ?_
            have K91 : ∀ (j90 : Int) , (-364 ≤ j90 ∧ j90 ≤ 364) → (j90 = fA (gsT Z (s 3037) y x X.2.2.2)) → (0 ≤ j90 ∧ j90 ≤ 364) → (True) → tt Zi d 150 (195, [some (.inr (.inl 30)), some (.inl y), some (.inl x), some (.inl r75), some (.inl r78), some (.inl r81), some (.inl ((((81 * r75) + (9 * r78)) + r81)))], [.inl j90, .inl y, .inl x, .inr (.inl 30)], n, D, (us s29 3046 j85), p, c0) Q := by
              intro j90 b93 b94 b95 hj92
              have hgn : (gsT Z (s 3037) y x X.2.2.2) ≠ 0 := by omega
              refine tt_cl (by omega) rfl (v_reg (Zi := Zi) (D := D) (s := (us s29 3046 j85)) (p := p) (c := c0) (by omega) (bS_us hS29 (show 0 ≤ j85 ∧ j85 ≤ 1 by omega)) hC0 (64 * y + x) Z X.2.1 A x y j90 (by omega) (by omega) (by omega) (mv_us (by decide) hc36) (show (s29 3036) = 0 ∧ (s29 3050) = 0 ∧ x < (s29 3037) by omega) (show (0 ≤ (s29 3041) ∧ (s29 3041) ≤ (s29 3017)) ∧ (0 ≤ (s29 3042) ∧ (s29 3042) ≤ (s29 3017)) ∧ (0 ≤ (s29 3043) ∧ (s29 3043) ≤ (s29 3017)) by omega) (pl_eq (s := s29) rfl rfl rfl rfl rfl hpl5) (show 0 ≤ (64 * y + x) ∧ (64 * y + x) ≤ 4095 by omega) hx65 hmr hx66 (show (0 ≤ (s29 3054) ∧ (s29 3054) ≤ 8) ∧ (0 ≤ (s29 3052) ∧ (s29 3052) ≤ 255) by omega) (show (s29 3049) ≤ (s29 3014) by omega)) ?_
              rintro _ _ ⟨s96, c97, rfl, rfl, hS96, hC97, f98, g99, k100, k101, k102, k103⟩
              have hc104 : mv s96 := mv_fr f98 (by decide) (mv_us (by decide) hc36)
              show tt Zi d 150 (198, [some (.inr (.inl 30)), some (.inl y), some (.inl x), some (.inl r75), some (.inl r78), some (.inl r81), some (.inl ((((81 * r75) + (9 * r78)) + r81)))], [], n, D, s96, p, c97) _
              replace k100 : (s96 3050) = 0 → ∃ q, (rdNum A (ke (X.2.1 36 j90.toNat) (X.2.1 39 j90.toNat)) (Z 3026 - Z 3025 - 1) (Z 3025) ((s29 3049), (s29 3052), (s29 3054))) = some (q, (s96 3049), (s96 3052), (s96 3054)) ∧ (-(Z 3024 / 2) ≤ (eM q (oR Z j90.toNat X.2.1)) ∧ (eM q (oR Z j90.toNat X.2.1)) ≤ (Z 3024 - 1) / 2) ∧ mrl (mLrn Z X.2.1 j90.toNat (eM q (oR Z j90.toNat X.2.1))) ((c97 36)) ((c97 37)) ((c97 38)) ((c97 39)) ∧ (c97 44) = ua ((c0 44)) ((s29 3039) + 64 * y + x).toNat (rR Z (gR Z ((s29 3041)) ((s29 3042)) ((s29 3043)) (j85) j90.toNat X.2.1) (j85) (eM q (oR Z j90.toNat X.2.1))) := k100
              replace k101 : (s96 3050) ≠ 0 → rqN Z (fun q => (eM q (oR Z j90.toNat X.2.1))) (rdNum A (ke (X.2.1 36 j90.toNat) (X.2.1 39 j90.toNat)) (Z 3026 - Z 3025 - 1) (Z 3025) ((s29 3049), (s29 3052), (s29 3054))) := k101
              replace k102 : (s96 3050) = 0 → (0 ≤ (s96 3054) ∧ (s96 3054) ≤ 8) ∧ (0 ≤ (s96 3052) ∧ (s96 3052) ≤ 255) := k102
              replace k103 : (s96 3050) = 0 → (s96 3049) ≤ (s29 3014) := k103
              have b105 : 0 ≤ (s96 3050) ∧ (s96 3050) ≤ 8 := hS96 3050
              have b106 : 0 ≤ (s96 3049) ∧ (s96 3049) ≤ 32769 := hS96 3049
              have b107 : 0 ≤ (s96 3052) ∧ (s96 3052) ≤ 255 := hS96 3052
              have b108 : 0 ≤ (s96 3054) ∧ (s96 3054) ≤ 8 := hS96 3054
              have e109 : s96 3036 = (s29 3036) := (f98 3036 (by decide))
              have b110 : 0 ≤ (s96 3036) ∧ (s96 3036) ≤ 1 := hS96 3036
              have e111 : s96 3037 = (s29 3037) := (f98 3037 (by decide))
              have b112 : 0 ≤ (s96 3037) ∧ (s96 3037) ≤ 64 := hS96 3037
              have e113 : s96 3038 = (s29 3038) := (f98 3038 (by decide))
              have b114 : 0 ≤ (s96 3038) ∧ (s96 3038) ≤ 64 := hS96 3038
              have e115 : s96 3017 = (s29 3017) := (f98 3017 (by decide))
              have b116 : 0 ≤ (s96 3017) ∧ (s96 3017) ≤ 65535 := hS96 3017
              have e117 : s96 3039 = (s29 3039) := (f98 3039 (by decide))
              have b118 : 0 ≤ (s96 3039) ∧ (s96 3039) ≤ 8192 := hS96 3039
              have e119 : s96 3035 = (s29 3035) := (f98 3035 (by decide))
              have b120 : 0 ≤ (s96 3035) ∧ (s96 3035) ≤ 31 := hS96 3035
              have e121 : s96 3014 = (s29 3014) := (f98 3014 (by decide))
              have b122 : 0 ≤ (s96 3014) ∧ (s96 3014) ≤ 32768 := hS96 3014
              have e123 : s96 3025 = (s29 3025) := (f98 3025 (by decide))
              have b124 : 0 ≤ (s96 3025) ∧ (s96 3025) ≤ 31 := hS96 3025
              have hx125 : zq Z (s96 3017) (s96 3018) (s96 3019) (s96 3020) (s96 3021) (s96 3022) (s96 3023) (s96 3024) (s96 3025) (s96 3026) := by rw [f98 3017 (by decide), f98 3018 (by decide), f98 3019 (by decide), f98 3020 (by decide), f98 3021 (by decide), f98 3022 (by decide), f98 3023 (by decide), f98 3024 (by decide), f98 3025 (by decide), f98 3026 (by decide)]; exact hx65
              have hx126 : tpl A (s96 3014) (c97 34) := by rw [f98 3014 (by decide), g99 34 (by decide)]; exact hx66
              by_cases hf1 : s96 3050 = 0
              · skip
                obtain ⟨q9, n1, n2, n3, n4⟩ := k100 hf1
                clear k100 k101
                rw [b94, vA_, vN_, vL_, hdd] at n1
                rw [b94] at n2
                rw [b94] at n3
                rw [la, lb, lc, b94, b89, vB_, eB] at n4
                have hrs := rReg_s (a := (nA X.2.2.2 x y)) (b := (nB X.2.2.2 x y)) (c := (nC X.2.2.2 x y)) (t := (if (gsT Z (s 3037) y x X.2.2.2) < 0 then 1 else 0)) (i := (fA (gsT Z (s 3037) y x X.2.2.2)).toNat) (j := (64 * y + x).toNat) (X := X) n1 n2
                have h1_ := stR_r (w := s 3037) hgn hrs
                obtain ⟨hJ, hr1⟩ := plJ_s hq1 hI (by omega) (by omega) (by omega) (by omega) h1_
                have ht2 := tr_st (v := rR Z (gR Z (nA X.2.2.2 x y) (nB X.2.2.2 x y) (nC X.2.2.2 x y) (if (gsT Z (s 3037) y x X.2.2.2) < 0 then 1 else 0) (fA (gsT Z (s 3037) y x X.2.2.2)).toNat X.2.1) (if (gsT Z (s 3037) y x X.2.2.2) < 0 then 1 else 0) (eM q9 (oR Z (fA (gsT Z (s 3037) y x X.2.2.2)).toNat X.2.1))) htr (by omega) (by omega) (by omega) (by omega)
                refine tt_k 2 (S' := (23, [some (.inr (.inl 30)), some (.inl y), some (.inl (x + 1)), some (.inl r75), some (.inl r78), some (.inl r81), some (.inl ((((81 * r75) + (9 * r78)) + r81)))], [], n, D, s96, p, c97)) rfl ?_
                exact ih (x + 1) (some (.inl r75)) (some (.inl r78)) (some (.inl r81)) (some (.inl ((((81 * r75) + (9 * r78)) + r81)))) s96 c97 (by omega) hS96 (fr_tr (fr_us (by decide) (fr_tr hF0 f30 (by decide))) f98 (by decide)) hC97 (frc_tr hG0 g99 (by decide)) (fun _ => ⟨_, hJ, rfl, n3, by show _ = X.2.2.1; omega, by rw [n4]; exact ht2⟩) (fun h => absurd hf1 h) (show (s96 3050) = 0 → (0 ≤ (s96 3054) ∧ (s96 3054) ≤ 8) ∧ (0 ≤ (s96 3052) ∧ (s96 3052) ≤ 255) by omega) (show (s96 3050) = 0 → (s96 3049) ≤ s 3014 by omega) (fun _ => by rw [n4]; exact ofr_ua (i4 (by omega)) (by omega)) (show (x + 1) ≤ s 3037 by omega) (show (if (s96 3050) = 0 then s 3037 - (x + 1) + 1 else 0).toNat < m by omega)
              · skip
                have hrq := k101 hf1
                clear k100 k101
                rw [b94, vA_, vN_, vL_, hdd] at hrq
                have hno : R = none := plJ_n hI (by omega) (by omega) (stR_rn (w := s 3037) hgn (rReg_n (a := (nA X.2.2.2 x y)) (b := (nB X.2.2.2 x y)) (c := (nC X.2.2.2 x y)) (t := (if (gsT Z (s 3037) y x X.2.2.2) < 0 then 1 else 0)) (i := (fA (gsT Z (s 3037) y x X.2.2.2)).toNat) (j := (64 * y + x).toNat) (X := X) hrq))
                refine tt_k 2 (S' := (23, [some (.inr (.inl 30)), some (.inl y), some (.inl (x + 1)), some (.inl r75), some (.inl r78), some (.inl r81), some (.inl ((((81 * r75) + (9 * r78)) + r81)))], [], n, D, s96, p, c97)) rfl ?_
                exact ih (x + 1) (some (.inl r75)) (some (.inl r78)) (some (.inl r81)) (some (.inl ((((81 * r75) + (9 * r78)) + r81)))) s96 c97 (by omega) hS96 (fr_tr (fr_us (by decide) (fr_tr hF0 f30 (by decide))) f98 (by decide)) hC97 (frc_tr hG0 g99 (by decide)) (fun h => absurd h hf1) (fun _ => hno) (show (s96 3050) = 0 → (0 ≤ (s96 3054) ∧ (s96 3054) ≤ 8) ∧ (0 ≤ (s96 3052) ∧ (s96 3052) ≤ 255) by omega) (show (s96 3050) = 0 → (s96 3049) ≤ s 3014 by omega) (fun h => absurd h hf1) (show (x + 1) ≤ s 3037 by omega) (show (if (s96 3050) = 0 then s 3037 - (x + 1) + 1 else 0).toNat < m by omega)
            refine tz_eq (x := j85) rfl rfl (by omega) (fun h127 => ?_) (fun h127 => ?_)
            · show tt Zi d 150 (193, [some (.inr (.inl 30)), some (.inl y), some (.inl x), some (.inl r75), some (.inl r78), some (.inl r81), some (.inl ((((81 * r75) + (9 * r78)) + r81)))], [.inl y, .inl x, .inr (.inl 30)], n, D, (us s29 3046 j85), p, c0) _
              refine tt_k 1 (S' := (195, [some (.inr (.inl 30)), some (.inl y), some (.inl x), some (.inl r75), some (.inl r78), some (.inl r81), some (.inl ((((81 * r75) + (9 * r78)) + r81)))], [.inl ((((81 * r75) + (9 * r78)) + r81)), .inl y, .inl x, .inr (.inl 30)], n, D, (us s29 3046 j85), p, c0)) rfl ?_
              exact K91 ((((81 * r75) + (9 * r78)) + r81))  (by omega) (by have hjt := b89; unfold fA; (repeat' split at hjt) <;> (repeat' split) <;> omega) (by omega) (trivial)
            · show tt Zi d 150 (187, [some (.inr (.inl 30)), some (.inl y), some (.inl x), some (.inl r75), some (.inl r78), some (.inl r81), some (.inl ((((81 * r75) + (9 * r78)) + r81)))], [.inl y, .inl x, .inr (.inl 30)], n, D, (us s29 3046 j85), p, c0) _
              refine tt_k 3 (S' := (195, [some (.inr (.inl 30)), some (.inl y), some (.inl x), some (.inl r75), some (.inl r78), some (.inl r81), some (.inl ((((81 * r75) + (9 * r78)) + r81)))], [.inl ((-(((81 * r75) + (9 * r78)) + r81))), .inl y, .inl x, .inr (.inl 30)], n, D, (us s29 3046 j85), p, c0)) rfl ?_
              exact K91 ((-(((81 * r75) + (9 * r78)) + r81)))  (by omega) (by have hjt := b89; unfold fA; (repeat' split at hjt) <;> (repeat' split) <;> omega) (by omega) (trivial)
          refine tz_lt (x := r75) rfl rfl (by omega) (fun h128 => ?_) (fun h128 => ?_)
          · show tt Zi d 150 (154, [some (.inr (.inl 30)), some (.inl y), some (.inl x), some (.inl r75), some (.inl r78), some (.inl r81), o_6], [.inr (.inl 30)], n, D, s29, p, c0) _
            refine tt_k 2 (S' := (159, [some (.inr (.inl 30)), some (.inl y), some (.inl x), some (.inl r75), some (.inl r78), some (.inl r81), o_6], [.inl 1, .inr (.inl 30)], n, D, s29, p, c0)) rfl ?_
            exact K86 1  (by omega) (by first | (exfalso; omega) | rw [if_pos (by omega)] | rw [if_neg (by omega)]) (trivial)
          · show tt Zi d 150 (135, [some (.inr (.inl 30)), some (.inl y), some (.inl x), some (.inl r75), some (.inl r78), some (.inl r81), o_6], [.inr (.inl 30)], n, D, s29, p, c0) _
            refine tt_k 1 (S' := (136, [some (.inr (.inl 30)), some (.inl y), some (.inl x), some (.inl r75), some (.inl r78), some (.inl r81), o_6], [.inl r75, .inr (.inl 30)], n, D, s29, p, c0)) rfl ?_
            refine tz_ne (x := r75) rfl rfl (by omega) (fun h129 => ?_) (fun h129 => ?_)
            · show tt Zi d 150 (158, [some (.inr (.inl 30)), some (.inl y), some (.inl x), some (.inl r75), some (.inl r78), some (.inl r81), o_6], [.inr (.inl 30)], n, D, s29, p, c0) _
              refine tt_k 1 (S' := (159, [some (.inr (.inl 30)), some (.inl y), some (.inl x), some (.inl r75), some (.inl r78), some (.inl r81), o_6], [.inl 0, .inr (.inl 30)], n, D, s29, p, c0)) rfl ?_
              exact K86 0  (by omega) (by first | (exfalso; omega) | rw [if_pos (by omega)] | rw [if_neg (by omega)]) (trivial)
            · show tt Zi d 150 (139, [some (.inr (.inl 30)), some (.inl y), some (.inl x), some (.inl r75), some (.inl r78), some (.inl r81), o_6], [.inr (.inl 30)], n, D, s29, p, c0) _
              refine tt_k 1 (S' := (141, [some (.inr (.inl 30)), some (.inl y), some (.inl x), some (.inl r75), some (.inl r78), some (.inl r81), o_6], [.inl r78, .inr (.inl 30)], n, D, s29, p, c0)) rfl ?_
              refine tz_lt (x := r78) rfl rfl (by omega) (fun h130 => ?_) (fun h130 => ?_)
              · show tt Zi d 150 (154, [some (.inr (.inl 30)), some (.inl y), some (.inl x), some (.inl r75), some (.inl r78), some (.inl r81), o_6], [.inr (.inl 30)], n, D, s29, p, c0) _
                refine tt_k 2 (S' := (159, [some (.inr (.inl 30)), some (.inl y), some (.inl x), some (.inl r75), some (.inl r78), some (.inl r81), o_6], [.inl 1, .inr (.inl 30)], n, D, s29, p, c0)) rfl ?_
                exact K86 1  (by omega) (by first | (exfalso; omega) | rw [if_pos (by omega)] | rw [if_neg (by omega)]) (trivial)
              · show tt Zi d 150 (144, [some (.inr (.inl 30)), some (.inl y), some (.inl x), some (.inl r75), some (.inl r78), some (.inl r81), o_6], [.inr (.inl 30)], n, D, s29, p, c0) _
                refine tt_k 1 (S' := (146, [some (.inr (.inl 30)), some (.inl y), some (.inl x), some (.inl r75), some (.inl r78), some (.inl r81), o_6], [.inl r78, .inr (.inl 30)], n, D, s29, p, c0)) rfl ?_
                refine tz_ne (x := r78) rfl rfl (by omega) (fun h131 => ?_) (fun h131 => ?_)
                · show tt Zi d 150 (158, [some (.inr (.inl 30)), some (.inl y), some (.inl x), some (.inl r75), some (.inl r78), some (.inl r81), o_6], [.inr (.inl 30)], n, D, s29, p, c0) _
                  refine tt_k 1 (S' := (159, [some (.inr (.inl 30)), some (.inl y), some (.inl x), some (.inl r75), some (.inl r78), some (.inl r81), o_6], [.inl 0, .inr (.inl 30)], n, D, s29, p, c0)) rfl ?_
                  exact K86 0  (by omega) (by first | (exfalso; omega) | rw [if_pos (by omega)] | rw [if_neg (by omega)]) (trivial)
                · show tt Zi d 150 (149, [some (.inr (.inl 30)), some (.inl y), some (.inl x), some (.inl r75), some (.inl r78), some (.inl r81), o_6], [.inr (.inl 30)], n, D, s29, p, c0) _
                  refine tt_k 1 (S' := (151, [some (.inr (.inl 30)), some (.inl y), some (.inl x), some (.inl r75), some (.inl r78), some (.inl r81), o_6], [.inl r81, .inr (.inl 30)], n, D, s29, p, c0)) rfl ?_
                  refine tz_ge (x := r81) rfl rfl (by omega) (fun h132 => ?_) (fun h132 => ?_)
                  · show tt Zi d 150 (158, [some (.inr (.inl 30)), some (.inl y), some (.inl x), some (.inl r75), some (.inl r78), some (.inl r81), o_6], [.inr (.inl 30)], n, D, s29, p, c0) _
                    refine tt_k 1 (S' := (159, [some (.inr (.inl 30)), some (.inl y), some (.inl x), some (.inl r75), some (.inl r78), some (.inl r81), o_6], [.inl 0, .inr (.inl 30)], n, D, s29, p, c0)) rfl ?_
                    exact K86 0  (by omega) (by first | (exfalso; omega) | rw [if_pos (by omega)] | rw [if_neg (by omega)]) (trivial)
                  · show tt Zi d 150 (154, [some (.inr (.inl 30)), some (.inl y), some (.inl x), some (.inl r75), some (.inl r78), some (.inl r81), o_6], [.inr (.inl 30)], n, D, s29, p, c0) _
                    refine tt_k 2 (S' := (159, [some (.inr (.inl 30)), some (.inl y), some (.inl x), some (.inl r75), some (.inl r78), some (.inl r81), o_6], [.inl 1, .inr (.inl 30)], n, D, s29, p, c0)) rfl ?_
                    exact K86 1  (by omega) (by first | (exfalso; omega) | rw [if_pos (by omega)] | rw [if_neg (by omega)]) (trivial)
        · show tt Zi d 150 (92, [some (.inr (.inl 30)), some (.inl y), some (.inl x), some (.inl r75), some (.inl r78), some (.inl r81), o_6], [], n, D, s29, p, c0) _
          refine tt_k 1 (S' := (94, [some (.inr (.inl 30)), some (.inl y), some (.inl x), some (.inl r75), some (.inl r78), some (.inl r81), o_6], [.inl r78], n, D, s29, p, c0)) rfl ?_
          refine tz_ne (x := r78) rfl rfl (by omega) (fun h133 => ?_) (fun h133 => ?_)
          · show tt Zi d 150 (130, [some (.inr (.inl 30)), some (.inl y), some (.inl x), some (.inl r75), some (.inl r78), some (.inl r81), o_6], [], n, D, s29, p, c0) _
            refine tt_k 2 (S' := (132, [some (.inr (.inl 30)), some (.inl y), some (.inl x), some (.inl r75), some (.inl r78), some (.inl r81), o_6], [.inl r75, .inr (.inl 30)], n, D, s29, p, c0)) rfl ?_
            have K135 : ∀ (j134 : Int) , (0 ≤ j134 ∧ j134 ≤ 1) → (j134 = (if (gsT Z (s 3037) y x X.2.2.2) < 0 then 1 else 0)) → (True) → tt Zi d 150 (159, [some (.inr (.inl 30)), some (.inl y), some (.inl x), some (.inl r75), some (.inl r78), some (.inl r81), o_6], [.inl j134, .inr (.inl 30)], n, D, s29, p, c0) Q := by
              intro j134 b137 b138 hj136
              refine tt_ptb (x := j134) rfl rfl rfl rfl rfl (by omega) ?_
              show tt Zi d 150 (162, [some (.inr (.inl 30)), some (.inl y), some (.inl x), some (.inl r75), some (.inl r78), some (.inl r81), o_6], [], n, D, (us s29 3046 j134), p, c0) _
              refine tt_k 14 (S' := (181, [some (.inr (.inl 30)), some (.inl y), some (.inl x), some (.inl r75), some (.inl r78), some (.inl r81), some (.inl ((((81 * r75) + (9 * r78)) + r81)))], [.inr (.inl 30), .inl y, .inl x, .inr (.inl 30)], n, D, (us s29 3046 j134), p, c0)) rfl ?_
              refine tt_k 1 (S' := (184, [some (.inr (.inl 30)), some (.inl y), some (.inl x), some (.inl r75), some (.inl r78), some (.inl r81), some (.inl ((((81 * r75) + (9 * r78)) + r81)))], [.inl j134, .inl y, .inl x, .inr (.inl 30)], n, D, (us s29 3046 j134), p, c0)) rfl ?_
              have K140 : ∀ (j139 : Int) , (-40 ≤ j139 ∧ j139 ≤ 40) → (j139 = fA (gsT Z (s 3037) y x X.2.2.2)) → (0 ≤ j139 ∧ j139 ≤ 364) → (True) → tt Zi d 150 (195, [some (.inr (.inl 30)), some (.inl y), some (.inl x), some (.inl r75), some (.inl r78), some (.inl r81), some (.inl ((((81 * r75) + (9 * r78)) + r81)))], [.inl j139, .inl y, .inl x, .inr (.inl 30)], n, D, (us s29 3046 j134), p, c0) Q := by
                intro j139 b142 b143 b144 hj141
                have hgn : (gsT Z (s 3037) y x X.2.2.2) ≠ 0 := by omega
                refine tt_cl (by omega) rfl (v_reg (Zi := Zi) (D := D) (s := (us s29 3046 j134)) (p := p) (c := c0) (by omega) (bS_us hS29 (show 0 ≤ j134 ∧ j134 ≤ 1 by omega)) hC0 (64 * y + x) Z X.2.1 A x y j139 (by omega) (by omega) (by omega) (mv_us (by decide) hc36) (show (s29 3036) = 0 ∧ (s29 3050) = 0 ∧ x < (s29 3037) by omega) (show (0 ≤ (s29 3041) ∧ (s29 3041) ≤ (s29 3017)) ∧ (0 ≤ (s29 3042) ∧ (s29 3042) ≤ (s29 3017)) ∧ (0 ≤ (s29 3043) ∧ (s29 3043) ≤ (s29 3017)) by omega) (pl_eq (s := s29) rfl rfl rfl rfl rfl hpl5) (show 0 ≤ (64 * y + x) ∧ (64 * y + x) ≤ 4095 by omega) hx65 hmr hx66 (show (0 ≤ (s29 3054) ∧ (s29 3054) ≤ 8) ∧ (0 ≤ (s29 3052) ∧ (s29 3052) ≤ 255) by omega) (show (s29 3049) ≤ (s29 3014) by omega)) ?_
                rintro _ _ ⟨s145, c146, rfl, rfl, hS145, hC146, f147, g148, k149, k150, k151, k152⟩
                have hc153 : mv s145 := mv_fr f147 (by decide) (mv_us (by decide) hc36)
                show tt Zi d 150 (198, [some (.inr (.inl 30)), some (.inl y), some (.inl x), some (.inl r75), some (.inl r78), some (.inl r81), some (.inl ((((81 * r75) + (9 * r78)) + r81)))], [], n, D, s145, p, c146) _
                replace k149 : (s145 3050) = 0 → ∃ q, (rdNum A (ke (X.2.1 36 j139.toNat) (X.2.1 39 j139.toNat)) (Z 3026 - Z 3025 - 1) (Z 3025) ((s29 3049), (s29 3052), (s29 3054))) = some (q, (s145 3049), (s145 3052), (s145 3054)) ∧ (-(Z 3024 / 2) ≤ (eM q (oR Z j139.toNat X.2.1)) ∧ (eM q (oR Z j139.toNat X.2.1)) ≤ (Z 3024 - 1) / 2) ∧ mrl (mLrn Z X.2.1 j139.toNat (eM q (oR Z j139.toNat X.2.1))) ((c146 36)) ((c146 37)) ((c146 38)) ((c146 39)) ∧ (c146 44) = ua ((c0 44)) ((s29 3039) + 64 * y + x).toNat (rR Z (gR Z ((s29 3041)) ((s29 3042)) ((s29 3043)) (j134) j139.toNat X.2.1) (j134) (eM q (oR Z j139.toNat X.2.1))) := k149
                replace k150 : (s145 3050) ≠ 0 → rqN Z (fun q => (eM q (oR Z j139.toNat X.2.1))) (rdNum A (ke (X.2.1 36 j139.toNat) (X.2.1 39 j139.toNat)) (Z 3026 - Z 3025 - 1) (Z 3025) ((s29 3049), (s29 3052), (s29 3054))) := k150
                replace k151 : (s145 3050) = 0 → (0 ≤ (s145 3054) ∧ (s145 3054) ≤ 8) ∧ (0 ≤ (s145 3052) ∧ (s145 3052) ≤ 255) := k151
                replace k152 : (s145 3050) = 0 → (s145 3049) ≤ (s29 3014) := k152
                have b154 : 0 ≤ (s145 3050) ∧ (s145 3050) ≤ 8 := hS145 3050
                have b155 : 0 ≤ (s145 3049) ∧ (s145 3049) ≤ 32769 := hS145 3049
                have b156 : 0 ≤ (s145 3052) ∧ (s145 3052) ≤ 255 := hS145 3052
                have b157 : 0 ≤ (s145 3054) ∧ (s145 3054) ≤ 8 := hS145 3054
                have e158 : s145 3036 = (s29 3036) := (f147 3036 (by decide))
                have b159 : 0 ≤ (s145 3036) ∧ (s145 3036) ≤ 1 := hS145 3036
                have e160 : s145 3037 = (s29 3037) := (f147 3037 (by decide))
                have b161 : 0 ≤ (s145 3037) ∧ (s145 3037) ≤ 64 := hS145 3037
                have e162 : s145 3038 = (s29 3038) := (f147 3038 (by decide))
                have b163 : 0 ≤ (s145 3038) ∧ (s145 3038) ≤ 64 := hS145 3038
                have e164 : s145 3017 = (s29 3017) := (f147 3017 (by decide))
                have b165 : 0 ≤ (s145 3017) ∧ (s145 3017) ≤ 65535 := hS145 3017
                have e166 : s145 3039 = (s29 3039) := (f147 3039 (by decide))
                have b167 : 0 ≤ (s145 3039) ∧ (s145 3039) ≤ 8192 := hS145 3039
                have e168 : s145 3035 = (s29 3035) := (f147 3035 (by decide))
                have b169 : 0 ≤ (s145 3035) ∧ (s145 3035) ≤ 31 := hS145 3035
                have e170 : s145 3014 = (s29 3014) := (f147 3014 (by decide))
                have b171 : 0 ≤ (s145 3014) ∧ (s145 3014) ≤ 32768 := hS145 3014
                have e172 : s145 3025 = (s29 3025) := (f147 3025 (by decide))
                have b173 : 0 ≤ (s145 3025) ∧ (s145 3025) ≤ 31 := hS145 3025
                have hx174 : zq Z (s145 3017) (s145 3018) (s145 3019) (s145 3020) (s145 3021) (s145 3022) (s145 3023) (s145 3024) (s145 3025) (s145 3026) := by rw [f147 3017 (by decide), f147 3018 (by decide), f147 3019 (by decide), f147 3020 (by decide), f147 3021 (by decide), f147 3022 (by decide), f147 3023 (by decide), f147 3024 (by decide), f147 3025 (by decide), f147 3026 (by decide)]; exact hx65
                have hx175 : tpl A (s145 3014) (c146 34) := by rw [f147 3014 (by decide), g148 34 (by decide)]; exact hx66
                by_cases hf1 : s145 3050 = 0
                · skip
                  obtain ⟨q9, n1, n2, n3, n4⟩ := k149 hf1
                  clear k149 k150
                  rw [b143, vA_, vN_, vL_, hdd] at n1
                  rw [b143] at n2
                  rw [b143] at n3
                  rw [la, lb, lc, b143, b138, vB_, eB] at n4
                  have hrs := rReg_s (a := (nA X.2.2.2 x y)) (b := (nB X.2.2.2 x y)) (c := (nC X.2.2.2 x y)) (t := (if (gsT Z (s 3037) y x X.2.2.2) < 0 then 1 else 0)) (i := (fA (gsT Z (s 3037) y x X.2.2.2)).toNat) (j := (64 * y + x).toNat) (X := X) n1 n2
                  have h1_ := stR_r (w := s 3037) hgn hrs
                  obtain ⟨hJ, hr1⟩ := plJ_s hq1 hI (by omega) (by omega) (by omega) (by omega) h1_
                  have ht2 := tr_st (v := rR Z (gR Z (nA X.2.2.2 x y) (nB X.2.2.2 x y) (nC X.2.2.2 x y) (if (gsT Z (s 3037) y x X.2.2.2) < 0 then 1 else 0) (fA (gsT Z (s 3037) y x X.2.2.2)).toNat X.2.1) (if (gsT Z (s 3037) y x X.2.2.2) < 0 then 1 else 0) (eM q9 (oR Z (fA (gsT Z (s 3037) y x X.2.2.2)).toNat X.2.1))) htr (by omega) (by omega) (by omega) (by omega)
                  refine tt_k 2 (S' := (23, [some (.inr (.inl 30)), some (.inl y), some (.inl (x + 1)), some (.inl r75), some (.inl r78), some (.inl r81), some (.inl ((((81 * r75) + (9 * r78)) + r81)))], [], n, D, s145, p, c146)) rfl ?_
                  exact ih (x + 1) (some (.inl r75)) (some (.inl r78)) (some (.inl r81)) (some (.inl ((((81 * r75) + (9 * r78)) + r81)))) s145 c146 (by omega) hS145 (fr_tr (fr_us (by decide) (fr_tr hF0 f30 (by decide))) f147 (by decide)) hC146 (frc_tr hG0 g148 (by decide)) (fun _ => ⟨_, hJ, rfl, n3, by show _ = X.2.2.1; omega, by rw [n4]; exact ht2⟩) (fun h => absurd hf1 h) (show (s145 3050) = 0 → (0 ≤ (s145 3054) ∧ (s145 3054) ≤ 8) ∧ (0 ≤ (s145 3052) ∧ (s145 3052) ≤ 255) by omega) (show (s145 3050) = 0 → (s145 3049) ≤ s 3014 by omega) (fun _ => by rw [n4]; exact ofr_ua (i4 (by omega)) (by omega)) (show (x + 1) ≤ s 3037 by omega) (show (if (s145 3050) = 0 then s 3037 - (x + 1) + 1 else 0).toNat < m by omega)
                · skip
                  have hrq := k150 hf1
                  clear k149 k150
                  rw [b143, vA_, vN_, vL_, hdd] at hrq
                  have hno : R = none := plJ_n hI (by omega) (by omega) (stR_rn (w := s 3037) hgn (rReg_n (a := (nA X.2.2.2 x y)) (b := (nB X.2.2.2 x y)) (c := (nC X.2.2.2 x y)) (t := (if (gsT Z (s 3037) y x X.2.2.2) < 0 then 1 else 0)) (i := (fA (gsT Z (s 3037) y x X.2.2.2)).toNat) (j := (64 * y + x).toNat) (X := X) hrq))
                  refine tt_k 2 (S' := (23, [some (.inr (.inl 30)), some (.inl y), some (.inl (x + 1)), some (.inl r75), some (.inl r78), some (.inl r81), some (.inl ((((81 * r75) + (9 * r78)) + r81)))], [], n, D, s145, p, c146)) rfl ?_
                  exact ih (x + 1) (some (.inl r75)) (some (.inl r78)) (some (.inl r81)) (some (.inl ((((81 * r75) + (9 * r78)) + r81)))) s145 c146 (by omega) hS145 (fr_tr (fr_us (by decide) (fr_tr hF0 f30 (by decide))) f147 (by decide)) hC146 (frc_tr hG0 g148 (by decide)) (fun h => absurd h hf1) (fun _ => hno) (show (s145 3050) = 0 → (0 ≤ (s145 3054) ∧ (s145 3054) ≤ 8) ∧ (0 ≤ (s145 3052) ∧ (s145 3052) ≤ 255) by omega) (show (s145 3050) = 0 → (s145 3049) ≤ s 3014 by omega) (fun h => absurd h hf1) (show (x + 1) ≤ s 3037 by omega) (show (if (s145 3050) = 0 then s 3037 - (x + 1) + 1 else 0).toNat < m by omega)
              refine tz_eq (x := j134) rfl rfl (by omega) (fun h176 => ?_) (fun h176 => ?_)
              · show tt Zi d 150 (193, [some (.inr (.inl 30)), some (.inl y), some (.inl x), some (.inl r75), some (.inl r78), some (.inl r81), some (.inl ((((81 * r75) + (9 * r78)) + r81)))], [.inl y, .inl x, .inr (.inl 30)], n, D, (us s29 3046 j134), p, c0) _
                refine tt_k 1 (S' := (195, [some (.inr (.inl 30)), some (.inl y), some (.inl x), some (.inl r75), some (.inl r78), some (.inl r81), some (.inl ((((81 * r75) + (9 * r78)) + r81)))], [.inl ((((81 * r75) + (9 * r78)) + r81)), .inl y, .inl x, .inr (.inl 30)], n, D, (us s29 3046 j134), p, c0)) rfl ?_
                exact K140 ((((81 * r75) + (9 * r78)) + r81))  (by omega) (by have hjt := b138; unfold fA; (repeat' split at hjt) <;> (repeat' split) <;> omega) (by omega) (trivial)
              · show tt Zi d 150 (187, [some (.inr (.inl 30)), some (.inl y), some (.inl x), some (.inl r75), some (.inl r78), some (.inl r81), some (.inl ((((81 * r75) + (9 * r78)) + r81)))], [.inl y, .inl x, .inr (.inl 30)], n, D, (us s29 3046 j134), p, c0) _
                refine tt_k 3 (S' := (195, [some (.inr (.inl 30)), some (.inl y), some (.inl x), some (.inl r75), some (.inl r78), some (.inl r81), some (.inl ((((81 * r75) + (9 * r78)) + r81)))], [.inl ((-(((81 * r75) + (9 * r78)) + r81))), .inl y, .inl x, .inr (.inl 30)], n, D, (us s29 3046 j134), p, c0)) rfl ?_
                exact K140 ((-(((81 * r75) + (9 * r78)) + r81)))  (by omega) (by have hjt := b138; unfold fA; (repeat' split at hjt) <;> (repeat' split) <;> omega) (by omega) (trivial)
            refine tz_lt (x := r75) rfl rfl (by omega) (fun h177 => ?_) (fun h177 => ?_)
            · exfalso; omega
            · show tt Zi d 150 (135, [some (.inr (.inl 30)), some (.inl y), some (.inl x), some (.inl r75), some (.inl r78), some (.inl r81), o_6], [.inr (.inl 30)], n, D, s29, p, c0) _
              refine tt_k 1 (S' := (136, [some (.inr (.inl 30)), some (.inl y), some (.inl x), some (.inl r75), some (.inl r78), some (.inl r81), o_6], [.inl r75, .inr (.inl 30)], n, D, s29, p, c0)) rfl ?_
              refine tz_ne (x := r75) rfl rfl (by omega) (fun h178 => ?_) (fun h178 => ?_)
              · exfalso; omega
              · show tt Zi d 150 (139, [some (.inr (.inl 30)), some (.inl y), some (.inl x), some (.inl r75), some (.inl r78), some (.inl r81), o_6], [.inr (.inl 30)], n, D, s29, p, c0) _
                refine tt_k 1 (S' := (141, [some (.inr (.inl 30)), some (.inl y), some (.inl x), some (.inl r75), some (.inl r78), some (.inl r81), o_6], [.inl r78, .inr (.inl 30)], n, D, s29, p, c0)) rfl ?_
                refine tz_lt (x := r78) rfl rfl (by omega) (fun h179 => ?_) (fun h179 => ?_)
                · show tt Zi d 150 (154, [some (.inr (.inl 30)), some (.inl y), some (.inl x), some (.inl r75), some (.inl r78), some (.inl r81), o_6], [.inr (.inl 30)], n, D, s29, p, c0) _
                  refine tt_k 2 (S' := (159, [some (.inr (.inl 30)), some (.inl y), some (.inl x), some (.inl r75), some (.inl r78), some (.inl r81), o_6], [.inl 1, .inr (.inl 30)], n, D, s29, p, c0)) rfl ?_
                  exact K135 1  (by omega) (by first | (exfalso; omega) | rw [if_pos (by omega)] | rw [if_neg (by omega)]) (trivial)
                · show tt Zi d 150 (144, [some (.inr (.inl 30)), some (.inl y), some (.inl x), some (.inl r75), some (.inl r78), some (.inl r81), o_6], [.inr (.inl 30)], n, D, s29, p, c0) _
                  refine tt_k 1 (S' := (146, [some (.inr (.inl 30)), some (.inl y), some (.inl x), some (.inl r75), some (.inl r78), some (.inl r81), o_6], [.inl r78, .inr (.inl 30)], n, D, s29, p, c0)) rfl ?_
                  refine tz_ne (x := r78) rfl rfl (by omega) (fun h180 => ?_) (fun h180 => ?_)
                  · show tt Zi d 150 (158, [some (.inr (.inl 30)), some (.inl y), some (.inl x), some (.inl r75), some (.inl r78), some (.inl r81), o_6], [.inr (.inl 30)], n, D, s29, p, c0) _
                    refine tt_k 1 (S' := (159, [some (.inr (.inl 30)), some (.inl y), some (.inl x), some (.inl r75), some (.inl r78), some (.inl r81), o_6], [.inl 0, .inr (.inl 30)], n, D, s29, p, c0)) rfl ?_
                    exact K135 0  (by omega) (by first | (exfalso; omega) | rw [if_pos (by omega)] | rw [if_neg (by omega)]) (trivial)
                  · show tt Zi d 150 (149, [some (.inr (.inl 30)), some (.inl y), some (.inl x), some (.inl r75), some (.inl r78), some (.inl r81), o_6], [.inr (.inl 30)], n, D, s29, p, c0) _
                    refine tt_k 1 (S' := (151, [some (.inr (.inl 30)), some (.inl y), some (.inl x), some (.inl r75), some (.inl r78), some (.inl r81), o_6], [.inl r81, .inr (.inl 30)], n, D, s29, p, c0)) rfl ?_
                    refine tz_ge (x := r81) rfl rfl (by omega) (fun h181 => ?_) (fun h181 => ?_)
                    · show tt Zi d 150 (158, [some (.inr (.inl 30)), some (.inl y), some (.inl x), some (.inl r75), some (.inl r78), some (.inl r81), o_6], [.inr (.inl 30)], n, D, s29, p, c0) _
                      refine tt_k 1 (S' := (159, [some (.inr (.inl 30)), some (.inl y), some (.inl x), some (.inl r75), some (.inl r78), some (.inl r81), o_6], [.inl 0, .inr (.inl 30)], n, D, s29, p, c0)) rfl ?_
                      exact K135 0  (by omega) (by first | (exfalso; omega) | rw [if_pos (by omega)] | rw [if_neg (by omega)]) (trivial)
                    · show tt Zi d 150 (154, [some (.inr (.inl 30)), some (.inl y), some (.inl x), some (.inl r75), some (.inl r78), some (.inl r81), o_6], [.inr (.inl 30)], n, D, s29, p, c0) _
                      refine tt_k 2 (S' := (159, [some (.inr (.inl 30)), some (.inl y), some (.inl x), some (.inl r75), some (.inl r78), some (.inl r81), o_6], [.inl 1, .inr (.inl 30)], n, D, s29, p, c0)) rfl ?_
                      exact K135 1  (by omega) (by first | (exfalso; omega) | rw [if_pos (by omega)] | rw [if_neg (by omega)]) (trivial)
          · show tt Zi d 150 (97, [some (.inr (.inl 30)), some (.inl y), some (.inl x), some (.inl r75), some (.inl r78), some (.inl r81), o_6], [], n, D, s29, p, c0) _
            refine tt_k 1 (S' := (99, [some (.inr (.inl 30)), some (.inl y), some (.inl x), some (.inl r75), some (.inl r78), some (.inl r81), o_6], [.inl r81], n, D, s29, p, c0)) rfl ?_
            refine tz_ne (x := r81) rfl rfl (by omega) (fun h182 => ?_) (fun h182 => ?_)
            · show tt Zi d 150 (130, [some (.inr (.inl 30)), some (.inl y), some (.inl x), some (.inl r75), some (.inl r78), some (.inl r81), o_6], [], n, D, s29, p, c0) _
              refine tt_k 2 (S' := (132, [some (.inr (.inl 30)), some (.inl y), some (.inl x), some (.inl r75), some (.inl r78), some (.inl r81), o_6], [.inl r75, .inr (.inl 30)], n, D, s29, p, c0)) rfl ?_
              have K184 : ∀ (j183 : Int) , (0 ≤ j183 ∧ j183 ≤ 1) → (j183 = (if (gsT Z (s 3037) y x X.2.2.2) < 0 then 1 else 0)) → (True) → tt Zi d 150 (159, [some (.inr (.inl 30)), some (.inl y), some (.inl x), some (.inl r75), some (.inl r78), some (.inl r81), o_6], [.inl j183, .inr (.inl 30)], n, D, s29, p, c0) Q := by
                intro j183 b186 b187 hj185
                refine tt_ptb (x := j183) rfl rfl rfl rfl rfl (by omega) ?_
                show tt Zi d 150 (162, [some (.inr (.inl 30)), some (.inl y), some (.inl x), some (.inl r75), some (.inl r78), some (.inl r81), o_6], [], n, D, (us s29 3046 j183), p, c0) _
                refine tt_k 14 (S' := (181, [some (.inr (.inl 30)), some (.inl y), some (.inl x), some (.inl r75), some (.inl r78), some (.inl r81), some (.inl ((((81 * r75) + (9 * r78)) + r81)))], [.inr (.inl 30), .inl y, .inl x, .inr (.inl 30)], n, D, (us s29 3046 j183), p, c0)) rfl ?_
                refine tt_k 1 (S' := (184, [some (.inr (.inl 30)), some (.inl y), some (.inl x), some (.inl r75), some (.inl r78), some (.inl r81), some (.inl ((((81 * r75) + (9 * r78)) + r81)))], [.inl j183, .inl y, .inl x, .inr (.inl 30)], n, D, (us s29 3046 j183), p, c0)) rfl ?_
                have K189 : ∀ (j188 : Int) , (-4 ≤ j188 ∧ j188 ≤ 4) → (j188 = fA (gsT Z (s 3037) y x X.2.2.2)) → (0 ≤ j188 ∧ j188 ≤ 364) → (True) → tt Zi d 150 (195, [some (.inr (.inl 30)), some (.inl y), some (.inl x), some (.inl r75), some (.inl r78), some (.inl r81), some (.inl ((((81 * r75) + (9 * r78)) + r81)))], [.inl j188, .inl y, .inl x, .inr (.inl 30)], n, D, (us s29 3046 j183), p, c0) Q := by
                  intro j188 b191 b192 b193 hj190
                  have hgn : (gsT Z (s 3037) y x X.2.2.2) ≠ 0 := by omega
                  refine tt_cl (by omega) rfl (v_reg (Zi := Zi) (D := D) (s := (us s29 3046 j183)) (p := p) (c := c0) (by omega) (bS_us hS29 (show 0 ≤ j183 ∧ j183 ≤ 1 by omega)) hC0 (64 * y + x) Z X.2.1 A x y j188 (by omega) (by omega) (by omega) (mv_us (by decide) hc36) (show (s29 3036) = 0 ∧ (s29 3050) = 0 ∧ x < (s29 3037) by omega) (show (0 ≤ (s29 3041) ∧ (s29 3041) ≤ (s29 3017)) ∧ (0 ≤ (s29 3042) ∧ (s29 3042) ≤ (s29 3017)) ∧ (0 ≤ (s29 3043) ∧ (s29 3043) ≤ (s29 3017)) by omega) (pl_eq (s := s29) rfl rfl rfl rfl rfl hpl5) (show 0 ≤ (64 * y + x) ∧ (64 * y + x) ≤ 4095 by omega) hx65 hmr hx66 (show (0 ≤ (s29 3054) ∧ (s29 3054) ≤ 8) ∧ (0 ≤ (s29 3052) ∧ (s29 3052) ≤ 255) by omega) (show (s29 3049) ≤ (s29 3014) by omega)) ?_
                  rintro _ _ ⟨s194, c195, rfl, rfl, hS194, hC195, f196, g197, k198, k199, k200, k201⟩
                  have hc202 : mv s194 := mv_fr f196 (by decide) (mv_us (by decide) hc36)
                  show tt Zi d 150 (198, [some (.inr (.inl 30)), some (.inl y), some (.inl x), some (.inl r75), some (.inl r78), some (.inl r81), some (.inl ((((81 * r75) + (9 * r78)) + r81)))], [], n, D, s194, p, c195) _
                  replace k198 : (s194 3050) = 0 → ∃ q, (rdNum A (ke (X.2.1 36 j188.toNat) (X.2.1 39 j188.toNat)) (Z 3026 - Z 3025 - 1) (Z 3025) ((s29 3049), (s29 3052), (s29 3054))) = some (q, (s194 3049), (s194 3052), (s194 3054)) ∧ (-(Z 3024 / 2) ≤ (eM q (oR Z j188.toNat X.2.1)) ∧ (eM q (oR Z j188.toNat X.2.1)) ≤ (Z 3024 - 1) / 2) ∧ mrl (mLrn Z X.2.1 j188.toNat (eM q (oR Z j188.toNat X.2.1))) ((c195 36)) ((c195 37)) ((c195 38)) ((c195 39)) ∧ (c195 44) = ua ((c0 44)) ((s29 3039) + 64 * y + x).toNat (rR Z (gR Z ((s29 3041)) ((s29 3042)) ((s29 3043)) (j183) j188.toNat X.2.1) (j183) (eM q (oR Z j188.toNat X.2.1))) := k198
                  replace k199 : (s194 3050) ≠ 0 → rqN Z (fun q => (eM q (oR Z j188.toNat X.2.1))) (rdNum A (ke (X.2.1 36 j188.toNat) (X.2.1 39 j188.toNat)) (Z 3026 - Z 3025 - 1) (Z 3025) ((s29 3049), (s29 3052), (s29 3054))) := k199
                  replace k200 : (s194 3050) = 0 → (0 ≤ (s194 3054) ∧ (s194 3054) ≤ 8) ∧ (0 ≤ (s194 3052) ∧ (s194 3052) ≤ 255) := k200
                  replace k201 : (s194 3050) = 0 → (s194 3049) ≤ (s29 3014) := k201
                  have b203 : 0 ≤ (s194 3050) ∧ (s194 3050) ≤ 8 := hS194 3050
                  have b204 : 0 ≤ (s194 3049) ∧ (s194 3049) ≤ 32769 := hS194 3049
                  have b205 : 0 ≤ (s194 3052) ∧ (s194 3052) ≤ 255 := hS194 3052
                  have b206 : 0 ≤ (s194 3054) ∧ (s194 3054) ≤ 8 := hS194 3054
                  have e207 : s194 3036 = (s29 3036) := (f196 3036 (by decide))
                  have b208 : 0 ≤ (s194 3036) ∧ (s194 3036) ≤ 1 := hS194 3036
                  have e209 : s194 3037 = (s29 3037) := (f196 3037 (by decide))
                  have b210 : 0 ≤ (s194 3037) ∧ (s194 3037) ≤ 64 := hS194 3037
                  have e211 : s194 3038 = (s29 3038) := (f196 3038 (by decide))
                  have b212 : 0 ≤ (s194 3038) ∧ (s194 3038) ≤ 64 := hS194 3038
                  have e213 : s194 3017 = (s29 3017) := (f196 3017 (by decide))
                  have b214 : 0 ≤ (s194 3017) ∧ (s194 3017) ≤ 65535 := hS194 3017
                  have e215 : s194 3039 = (s29 3039) := (f196 3039 (by decide))
                  have b216 : 0 ≤ (s194 3039) ∧ (s194 3039) ≤ 8192 := hS194 3039
                  have e217 : s194 3035 = (s29 3035) := (f196 3035 (by decide))
                  have b218 : 0 ≤ (s194 3035) ∧ (s194 3035) ≤ 31 := hS194 3035
                  have e219 : s194 3014 = (s29 3014) := (f196 3014 (by decide))
                  have b220 : 0 ≤ (s194 3014) ∧ (s194 3014) ≤ 32768 := hS194 3014
                  have e221 : s194 3025 = (s29 3025) := (f196 3025 (by decide))
                  have b222 : 0 ≤ (s194 3025) ∧ (s194 3025) ≤ 31 := hS194 3025
                  have hx223 : zq Z (s194 3017) (s194 3018) (s194 3019) (s194 3020) (s194 3021) (s194 3022) (s194 3023) (s194 3024) (s194 3025) (s194 3026) := by rw [f196 3017 (by decide), f196 3018 (by decide), f196 3019 (by decide), f196 3020 (by decide), f196 3021 (by decide), f196 3022 (by decide), f196 3023 (by decide), f196 3024 (by decide), f196 3025 (by decide), f196 3026 (by decide)]; exact hx65
                  have hx224 : tpl A (s194 3014) (c195 34) := by rw [f196 3014 (by decide), g197 34 (by decide)]; exact hx66
                  by_cases hf1 : s194 3050 = 0
                  · skip
                    obtain ⟨q9, n1, n2, n3, n4⟩ := k198 hf1
                    clear k198 k199
                    rw [b192, vA_, vN_, vL_, hdd] at n1
                    rw [b192] at n2
                    rw [b192] at n3
                    rw [la, lb, lc, b192, b187, vB_, eB] at n4
                    have hrs := rReg_s (a := (nA X.2.2.2 x y)) (b := (nB X.2.2.2 x y)) (c := (nC X.2.2.2 x y)) (t := (if (gsT Z (s 3037) y x X.2.2.2) < 0 then 1 else 0)) (i := (fA (gsT Z (s 3037) y x X.2.2.2)).toNat) (j := (64 * y + x).toNat) (X := X) n1 n2
                    have h1_ := stR_r (w := s 3037) hgn hrs
                    obtain ⟨hJ, hr1⟩ := plJ_s hq1 hI (by omega) (by omega) (by omega) (by omega) h1_
                    have ht2 := tr_st (v := rR Z (gR Z (nA X.2.2.2 x y) (nB X.2.2.2 x y) (nC X.2.2.2 x y) (if (gsT Z (s 3037) y x X.2.2.2) < 0 then 1 else 0) (fA (gsT Z (s 3037) y x X.2.2.2)).toNat X.2.1) (if (gsT Z (s 3037) y x X.2.2.2) < 0 then 1 else 0) (eM q9 (oR Z (fA (gsT Z (s 3037) y x X.2.2.2)).toNat X.2.1))) htr (by omega) (by omega) (by omega) (by omega)
                    refine tt_k 2 (S' := (23, [some (.inr (.inl 30)), some (.inl y), some (.inl (x + 1)), some (.inl r75), some (.inl r78), some (.inl r81), some (.inl ((((81 * r75) + (9 * r78)) + r81)))], [], n, D, s194, p, c195)) rfl ?_
                    exact ih (x + 1) (some (.inl r75)) (some (.inl r78)) (some (.inl r81)) (some (.inl ((((81 * r75) + (9 * r78)) + r81)))) s194 c195 (by omega) hS194 (fr_tr (fr_us (by decide) (fr_tr hF0 f30 (by decide))) f196 (by decide)) hC195 (frc_tr hG0 g197 (by decide)) (fun _ => ⟨_, hJ, rfl, n3, by show _ = X.2.2.1; omega, by rw [n4]; exact ht2⟩) (fun h => absurd hf1 h) (show (s194 3050) = 0 → (0 ≤ (s194 3054) ∧ (s194 3054) ≤ 8) ∧ (0 ≤ (s194 3052) ∧ (s194 3052) ≤ 255) by omega) (show (s194 3050) = 0 → (s194 3049) ≤ s 3014 by omega) (fun _ => by rw [n4]; exact ofr_ua (i4 (by omega)) (by omega)) (show (x + 1) ≤ s 3037 by omega) (show (if (s194 3050) = 0 then s 3037 - (x + 1) + 1 else 0).toNat < m by omega)
                  · skip
                    have hrq := k199 hf1
                    clear k198 k199
                    rw [b192, vA_, vN_, vL_, hdd] at hrq
                    have hno : R = none := plJ_n hI (by omega) (by omega) (stR_rn (w := s 3037) hgn (rReg_n (a := (nA X.2.2.2 x y)) (b := (nB X.2.2.2 x y)) (c := (nC X.2.2.2 x y)) (t := (if (gsT Z (s 3037) y x X.2.2.2) < 0 then 1 else 0)) (i := (fA (gsT Z (s 3037) y x X.2.2.2)).toNat) (j := (64 * y + x).toNat) (X := X) hrq))
                    refine tt_k 2 (S' := (23, [some (.inr (.inl 30)), some (.inl y), some (.inl (x + 1)), some (.inl r75), some (.inl r78), some (.inl r81), some (.inl ((((81 * r75) + (9 * r78)) + r81)))], [], n, D, s194, p, c195)) rfl ?_
                    exact ih (x + 1) (some (.inl r75)) (some (.inl r78)) (some (.inl r81)) (some (.inl ((((81 * r75) + (9 * r78)) + r81)))) s194 c195 (by omega) hS194 (fr_tr (fr_us (by decide) (fr_tr hF0 f30 (by decide))) f196 (by decide)) hC195 (frc_tr hG0 g197 (by decide)) (fun h => absurd h hf1) (fun _ => hno) (show (s194 3050) = 0 → (0 ≤ (s194 3054) ∧ (s194 3054) ≤ 8) ∧ (0 ≤ (s194 3052) ∧ (s194 3052) ≤ 255) by omega) (show (s194 3050) = 0 → (s194 3049) ≤ s 3014 by omega) (fun h => absurd h hf1) (show (x + 1) ≤ s 3037 by omega) (show (if (s194 3050) = 0 then s 3037 - (x + 1) + 1 else 0).toNat < m by omega)
                refine tz_eq (x := j183) rfl rfl (by omega) (fun h225 => ?_) (fun h225 => ?_)
                · show tt Zi d 150 (193, [some (.inr (.inl 30)), some (.inl y), some (.inl x), some (.inl r75), some (.inl r78), some (.inl r81), some (.inl ((((81 * r75) + (9 * r78)) + r81)))], [.inl y, .inl x, .inr (.inl 30)], n, D, (us s29 3046 j183), p, c0) _
                  refine tt_k 1 (S' := (195, [some (.inr (.inl 30)), some (.inl y), some (.inl x), some (.inl r75), some (.inl r78), some (.inl r81), some (.inl ((((81 * r75) + (9 * r78)) + r81)))], [.inl ((((81 * r75) + (9 * r78)) + r81)), .inl y, .inl x, .inr (.inl 30)], n, D, (us s29 3046 j183), p, c0)) rfl ?_
                  exact K189 ((((81 * r75) + (9 * r78)) + r81))  (by omega) (by have hjt := b187; unfold fA; (repeat' split at hjt) <;> (repeat' split) <;> omega) (by omega) (trivial)
                · show tt Zi d 150 (187, [some (.inr (.inl 30)), some (.inl y), some (.inl x), some (.inl r75), some (.inl r78), some (.inl r81), some (.inl ((((81 * r75) + (9 * r78)) + r81)))], [.inl y, .inl x, .inr (.inl 30)], n, D, (us s29 3046 j183), p, c0) _
                  refine tt_k 3 (S' := (195, [some (.inr (.inl 30)), some (.inl y), some (.inl x), some (.inl r75), some (.inl r78), some (.inl r81), some (.inl ((((81 * r75) + (9 * r78)) + r81)))], [.inl ((-(((81 * r75) + (9 * r78)) + r81))), .inl y, .inl x, .inr (.inl 30)], n, D, (us s29 3046 j183), p, c0)) rfl ?_
                  exact K189 ((-(((81 * r75) + (9 * r78)) + r81)))  (by omega) (by have hjt := b187; unfold fA; (repeat' split at hjt) <;> (repeat' split) <;> omega) (by omega) (trivial)
              refine tz_lt (x := r75) rfl rfl (by omega) (fun h226 => ?_) (fun h226 => ?_)
              · exfalso; omega
              · show tt Zi d 150 (135, [some (.inr (.inl 30)), some (.inl y), some (.inl x), some (.inl r75), some (.inl r78), some (.inl r81), o_6], [.inr (.inl 30)], n, D, s29, p, c0) _
                refine tt_k 1 (S' := (136, [some (.inr (.inl 30)), some (.inl y), some (.inl x), some (.inl r75), some (.inl r78), some (.inl r81), o_6], [.inl r75, .inr (.inl 30)], n, D, s29, p, c0)) rfl ?_
                refine tz_ne (x := r75) rfl rfl (by omega) (fun h227 => ?_) (fun h227 => ?_)
                · exfalso; omega
                · show tt Zi d 150 (139, [some (.inr (.inl 30)), some (.inl y), some (.inl x), some (.inl r75), some (.inl r78), some (.inl r81), o_6], [.inr (.inl 30)], n, D, s29, p, c0) _
                  refine tt_k 1 (S' := (141, [some (.inr (.inl 30)), some (.inl y), some (.inl x), some (.inl r75), some (.inl r78), some (.inl r81), o_6], [.inl r78, .inr (.inl 30)], n, D, s29, p, c0)) rfl ?_
                  refine tz_lt (x := r78) rfl rfl (by omega) (fun h228 => ?_) (fun h228 => ?_)
                  · exfalso; omega
                  · show tt Zi d 150 (144, [some (.inr (.inl 30)), some (.inl y), some (.inl x), some (.inl r75), some (.inl r78), some (.inl r81), o_6], [.inr (.inl 30)], n, D, s29, p, c0) _
                    refine tt_k 1 (S' := (146, [some (.inr (.inl 30)), some (.inl y), some (.inl x), some (.inl r75), some (.inl r78), some (.inl r81), o_6], [.inl r78, .inr (.inl 30)], n, D, s29, p, c0)) rfl ?_
                    refine tz_ne (x := r78) rfl rfl (by omega) (fun h229 => ?_) (fun h229 => ?_)
                    · exfalso; omega
                    · show tt Zi d 150 (149, [some (.inr (.inl 30)), some (.inl y), some (.inl x), some (.inl r75), some (.inl r78), some (.inl r81), o_6], [.inr (.inl 30)], n, D, s29, p, c0) _
                      refine tt_k 1 (S' := (151, [some (.inr (.inl 30)), some (.inl y), some (.inl x), some (.inl r75), some (.inl r78), some (.inl r81), o_6], [.inl r81, .inr (.inl 30)], n, D, s29, p, c0)) rfl ?_
                      refine tz_ge (x := r81) rfl rfl (by omega) (fun h230 => ?_) (fun h230 => ?_)
                      · show tt Zi d 150 (158, [some (.inr (.inl 30)), some (.inl y), some (.inl x), some (.inl r75), some (.inl r78), some (.inl r81), o_6], [.inr (.inl 30)], n, D, s29, p, c0) _
                        refine tt_k 1 (S' := (159, [some (.inr (.inl 30)), some (.inl y), some (.inl x), some (.inl r75), some (.inl r78), some (.inl r81), o_6], [.inl 0, .inr (.inl 30)], n, D, s29, p, c0)) rfl ?_
                        exact K184 0  (by omega) (by first | (exfalso; omega) | rw [if_pos (by omega)] | rw [if_neg (by omega)]) (trivial)
                      · show tt Zi d 150 (154, [some (.inr (.inl 30)), some (.inl y), some (.inl x), some (.inl r75), some (.inl r78), some (.inl r81), o_6], [.inr (.inl 30)], n, D, s29, p, c0) _
                        refine tt_k 2 (S' := (159, [some (.inr (.inl 30)), some (.inl y), some (.inl x), some (.inl r75), some (.inl r78), some (.inl r81), o_6], [.inl 1, .inr (.inl 30)], n, D, s29, p, c0)) rfl ?_
                        exact K184 1  (by omega) (by first | (exfalso; omega) | rw [if_pos (by omega)] | rw [if_neg (by omega)]) (trivial)
            · show tt Zi d 150 (102, [some (.inr (.inl 30)), some (.inl y), some (.inl x), some (.inl r75), some (.inl r78), some (.inl r81), o_6], [], n, D, s29, p, c0) _
              refine tt_k 3 (S' := (107, [some (.inr (.inl 30)), some (.inl y), some (.inl x), some (.inl r75), some (.inl r78), some (.inl r81), o_6], [.inl (s29 3036), .inl x], n, D, s29, p, c0)) rfl ?_
              refine tz_eq (x := (s29 3036)) rfl rfl (by omega) (fun h231 => ?_) (fun h231 => ?_)
              · show tt Zi d 150 (119, [some (.inr (.inl 30)), some (.inl y), some (.inl x), some (.inl r75), some (.inl r78), some (.inl r81), o_6], [.inl x], n, D, s29, p, c0) _
                refine tt_k 3 (S' := (122, [some (.inr (.inl 30)), some (.inl y), some (.inl x), some (.inl r75), some (.inl r78), some (.inl r81), o_6], [.inl y, .inl x, .inr (.inl 30), .inl x], n, D, s29, p, c0)) rfl ?_
                have hgz : (gsT Z (s 3037) y x X.2.2.2) = 0 := by omega
                refine tt_cl (by omega) rfl (v_readRun (Zi := Zi) (D := D) (s := s29) (p := p) (c := c0) (by omega) hS29 hC0 Z A X x y (by omega) (by omega) hc36 (show (s29 3036) = 0 ∧ (s29 3050) = 0 ∧ x < (s29 3037) by omega) la hx66 (show (0 ≤ (s29 3054) ∧ (s29 3054) ≤ 8) ∧ (0 ≤ (s29 3052) ∧ (s29 3052) ≤ 255) by omega) (show (s29 3049) ≤ (s29 3014) by omega) hx65 hq1 (by rw [vW_, eW]; exact hvX) (by rw [vA_, vN_, vL_]; exact hdd) hmr (by rw [vP_]; exact hpc) (by rw [vB_, vW_]; exact htr0) (by rw [vW_, eW]; exact hgz)) ?_
                rintro _ _ ⟨s232, c233, r234, rfl, rfl, hS232, hC233, f235, g236, b237, k238, k239, k240, k241, k242, k243⟩
                have hc244 : mv s232 := mv_fr f235 (by decide) hc36
                show tt Zi d 150 (125, [some (.inr (.inl 30)), some (.inl y), some (.inl x), some (.inl r75), some (.inl r78), some (.inl r81), o_6], [.inl r234, .inl x], n, D, s232, p, c233) _
                replace k238 : (s232 3050) = 0 → stE (stR A Z ((s29 3037)) y x X) r234 ((s232 3049), (s232 3052), (s232 3054)) ((s232 3035)) ((c233 36)) ((c233 37)) ((c233 38)) ((c233 39)) ((s29 3039)) ((s29 3037)) (x + r234) y ((c233 44)) := k238
                replace k239 : (s232 3050) ≠ 0 → (stR A Z ((s29 3037)) y x X) = none := k239
                replace k240 : (s232 3050) = 0 → (0 ≤ (s232 3054) ∧ (s232 3054) ≤ 8) ∧ (0 ≤ (s232 3052) ∧ (s232 3052) ≤ 255) := k240
                replace k241 : (s232 3050) = 0 → (s232 3049) ≤ (s29 3014) := k241
                replace k242 : x + r234 ≤ (s29 3037) := k242
                replace k243 : (s232 3050) = 0 → ofr ((s29 3039)) ((c0 44)) ((c233 44)) := k243
                have b245 : 0 ≤ (s232 3050) ∧ (s232 3050) ≤ 8 := hS232 3050
                have b246 : 0 ≤ (s232 3049) ∧ (s232 3049) ≤ 32769 := hS232 3049
                have b247 : 0 ≤ (s232 3052) ∧ (s232 3052) ≤ 255 := hS232 3052
                have b248 : 0 ≤ (s232 3054) ∧ (s232 3054) ≤ 8 := hS232 3054
                have b249 : 0 ≤ (s232 3035) ∧ (s232 3035) ≤ 31 := hS232 3035
                have e250 : s232 3036 = (s29 3036) := (f235 3036 (by decide))
                have b251 : 0 ≤ (s232 3036) ∧ (s232 3036) ≤ 1 := hS232 3036
                have e252 : s232 3037 = (s29 3037) := (f235 3037 (by decide))
                have b253 : 0 ≤ (s232 3037) ∧ (s232 3037) ≤ 64 := hS232 3037
                have e254 : s232 3038 = (s29 3038) := (f235 3038 (by decide))
                have b255 : 0 ≤ (s232 3038) ∧ (s232 3038) ≤ 64 := hS232 3038
                have e256 : s232 3017 = (s29 3017) := (f235 3017 (by decide))
                have b257 : 0 ≤ (s232 3017) ∧ (s232 3017) ≤ 65535 := hS232 3017
                have e258 : s232 3039 = (s29 3039) := (f235 3039 (by decide))
                have b259 : 0 ≤ (s232 3039) ∧ (s232 3039) ≤ 8192 := hS232 3039
                have e260 : s232 3014 = (s29 3014) := (f235 3014 (by decide))
                have b261 : 0 ≤ (s232 3014) ∧ (s232 3014) ≤ 32768 := hS232 3014
                have e262 : s232 3025 = (s29 3025) := (f235 3025 (by decide))
                have b263 : 0 ≤ (s232 3025) ∧ (s232 3025) ≤ 31 := hS232 3025
                have hx264 : zq Z (s232 3017) (s232 3018) (s232 3019) (s232 3020) (s232 3021) (s232 3022) (s232 3023) (s232 3024) (s232 3025) (s232 3026) := by rw [f235 3017 (by decide), f235 3018 (by decide), f235 3019 (by decide), f235 3020 (by decide), f235 3021 (by decide), f235 3022 (by decide), f235 3023 (by decide), f235 3024 (by decide), f235 3025 (by decide), f235 3026 (by decide)]; exact hx65
                have hx265 : tpl A (s232 3014) (c233 34) := by rw [f235 3014 (by decide), g236 34 (by decide)]; exact hx66
                by_cases hf1 : s232 3050 = 0
                · skip
                  obtain ⟨X2, h1_, h2_, h3_, h4_, h5_⟩ := k238 hf1
                  rw [vW_, eW] at h1_
                  rw [vB_, eB, vW_, eW] at h5_
                  obtain ⟨hJ, hr1⟩ := plJ_s hq1 hI (by omega) (by omega) (by omega) (by omega) h1_
                  have hof := k243 hf1
                  rw [vB_, eB] at hof
                  refine tt_k 4 (S' := (23, [some (.inr (.inl 30)), some (.inl y), some (.inl (x + r234)), some (.inl r75), some (.inl r78), some (.inl r81), o_6], [], n, D, s232, p, c233)) rfl ?_
                  exact ih (x + r234) (some (.inl r75)) (some (.inl r78)) (some (.inl r81)) (o_6) s232 c233 (by omega) hS232 (fr_tr (fr_tr hF0 f30 (by decide)) f235 (by decide)) hC233 (frc_tr hG0 g236 (by decide)) (fun _ => ⟨X2, hJ, h2_, h3_, h4_, h5_⟩) (fun h => absurd hf1 h) (show (s232 3050) = 0 → (0 ≤ (s232 3054) ∧ (s232 3054) ≤ 8) ∧ (0 ≤ (s232 3052) ∧ (s232 3052) ≤ 255) by omega) (show (s232 3050) = 0 → (s232 3049) ≤ s 3014 by omega) (fun _ => ofr_tr (i4 (by omega)) hof) (show (x + r234) ≤ s 3037 by omega) (show (if (s232 3050) = 0 then s 3037 - (x + r234) + 1 else 0).toNat < m by omega)
                · skip
                  have hno : R = none := plJ_n hI (by omega) (by omega) (by have h := k239 hf1; rw [vW_, eW] at h; exact h)
                  refine tt_k 4 (S' := (23, [some (.inr (.inl 30)), some (.inl y), some (.inl (x + r234)), some (.inl r75), some (.inl r78), some (.inl r81), o_6], [], n, D, s232, p, c233)) rfl ?_
                  exact ih (x + r234) (some (.inl r75)) (some (.inl r78)) (some (.inl r81)) (o_6) s232 c233 (by omega) hS232 (fr_tr (fr_tr hF0 f30 (by decide)) f235 (by decide)) hC233 (frc_tr hG0 g236 (by decide)) (fun h => absurd h hf1) (fun _ => hno) (show (s232 3050) = 0 → (0 ≤ (s232 3054) ∧ (s232 3054) ≤ 8) ∧ (0 ≤ (s232 3052) ∧ (s232 3052) ≤ 255) by omega) (show (s232 3050) = 0 → (s232 3049) ≤ s 3014 by omega) (fun h => absurd h hf1) (show (x + r234) ≤ s 3037 by omega) (show (if (s232 3050) = 0 then s 3037 - (x + r234) + 1 else 0).toNat < m by omega)
              · exfalso; omega

set_option maxRecDepth 100000 in
set_option maxHeartbeats 4000000 in
theorem v_plane_L6 {Zi : Nat → Option (Nat × (Nat → Int))} {d n : Nat} {D : Nat → Nat × Nat} {s : Nat → Int} {p : Nat → Nat} {c : Nat → Nat → Int}  {Q : mi_Rs → mi_H → Prop} (hd : 7 ≤ d) (hS : bS s) (hC : bC D c) (Z : Nat → Int) (A : TN) (R : Option XR) (hq0 : zq Z (s 3017) (s 3018) (s 3019) (s 3020) (s 3021) (s 3022) (s 3023) (s 3024) (s 3025) (s 3026)) (hq1 : mv Z) (hq2 : tpl A (s 3014) (c 34)) (hq3 : s 3036 = 0 ∧ 1 ≤ s 3037)
  (hK : ∀ (y : Int) (o_2 : Option mi_V) (o_3 : Option mi_V) (o_4 : Option mi_V) (o_5 : Option mi_V) (o_6 : Option mi_V) (s0 : Nat → Int) (c0 : Nat → Nat → Int) (b_y : 0 ≤ y ∧ y ≤ 64) (hS0 : bS s0) (hF0 : fr s s0 [3035, 3041, 3042, 3043, 3044, 3045, 3046, 3049, 3050, 3051, 3052, 3053, 3054]) (hC0 : bC D c0) (hG0 : frc c c0 [36, 37, 38, 39, 44]) (i0 : s0 3050 = 0 → rpR A Z R (s 3037) (s 3038) y 0 (s0 3035) (s0 3049, s0 3052, s0 3054) (s 3039) (c0 36) (c0 37) (c0 38) (c0 39) (c0 44)) (i1 : s0 3050 ≠ 0 → R = none) (i2 : s0 3050 = 0 → (0 ≤ s0 3054 ∧ s0 3054 ≤ 8) ∧ (0 ≤ s0 3052 ∧ s0 3052 ≤ 255)) (i3 : s0 3050 = 0 → s0 3049 ≤ s 3014) (i4 : s0 3050 = 0 → ofr (s 3039) (c 44) (c0 44)) (i5 : y ≤ s 3038), (s0 3050 = 0 → s 3038 ≤ y) → tt Zi d 150 (210, [some (.inr (.inl 30)), some (.inl y), o_2, o_3, o_4, o_5, o_6], [], n, D, s0, p, c0) Q) :
  ∀ (m : Nat) (y : Int) (o_2 : Option mi_V) (o_3 : Option mi_V) (o_4 : Option mi_V) (o_5 : Option mi_V) (o_6 : Option mi_V) (s0 : Nat → Int) (c0 : Nat → Nat → Int) (b_y : 0 ≤ y ∧ y ≤ 64) (hS0 : bS s0) (hF0 : fr s s0 [3035, 3041, 3042, 3043, 3044, 3045, 3046, 3049, 3050, 3051, 3052, 3053, 3054]) (hC0 : bC D c0) (hG0 : frc c c0 [36, 37, 38, 39, 44]) (i0 : s0 3050 = 0 → rpR A Z R (s 3037) (s 3038) y 0 (s0 3035) (s0 3049, s0 3052, s0 3054) (s 3039) (c0 36) (c0 37) (c0 38) (c0 39) (c0 44)) (i1 : s0 3050 ≠ 0 → R = none) (i2 : s0 3050 = 0 → (0 ≤ s0 3054 ∧ s0 3054 ≤ 8) ∧ (0 ≤ s0 3052 ∧ s0 3052 ≤ 255)) (i3 : s0 3050 = 0 → s0 3049 ≤ s 3014) (i4 : s0 3050 = 0 → ofr (s 3039) (c 44) (c0 44)) (i5 : y ≤ s 3038), (if s0 3050 = 0 then s 3038 - y + 1 else 0).toNat < m → tt Zi d 150 (6, [some (.inr (.inl 30)), some (.inl y), o_2, o_3, o_4, o_5, o_6], [], n, D, s0, p, c0) Q := by
  intro m
  induction m with
  | zero => intro y o_2 o_3 o_4 o_5 o_6 s0 c0 b_y hS0 hF0 hC0 hG0 i0 i1 i2 i3 i4 i5 hm; exact absurd hm (by omega)
  | succ m ih =>
    intro y o_2 o_3 o_4 o_5 o_6 s0 c0 b_y hS0 hF0 hC0 hG0 i0 i1 i2 i3 i4 i5 hm
    have e1 : s0 3036 = s 3036 := hF0 3036 (by decide)
    have b2 : 0 ≤ (s0 3036) ∧ (s0 3036) ≤ 1 := hS0 3036
    have b3 : 0 ≤ (s 3036) ∧ (s 3036) ≤ 1 := hS 3036
    have e4 : s0 3037 = s 3037 := hF0 3037 (by decide)
    have b5 : 0 ≤ (s0 3037) ∧ (s0 3037) ≤ 64 := hS0 3037
    have b6 : 0 ≤ (s 3037) ∧ (s 3037) ≤ 64 := hS 3037
    have e7 : s0 3038 = s 3038 := hF0 3038 (by decide)
    have b8 : 0 ≤ (s0 3038) ∧ (s0 3038) ≤ 64 := hS0 3038
    have b9 : 0 ≤ (s 3038) ∧ (s 3038) ≤ 64 := hS 3038
    have e10 : s0 3017 = s 3017 := hF0 3017 (by decide)
    have b11 : 0 ≤ (s0 3017) ∧ (s0 3017) ≤ 65535 := hS0 3017
    have b12 : 0 ≤ (s 3017) ∧ (s 3017) ≤ 65535 := hS 3017
    have e13 : s0 3039 = s 3039 := hF0 3039 (by decide)
    have b14 : 0 ≤ (s0 3039) ∧ (s0 3039) ≤ 8192 := hS0 3039
    have b15 : 0 ≤ (s 3039) ∧ (s 3039) ≤ 8192 := hS 3039
    have e16 : s0 3014 = s 3014 := hF0 3014 (by decide)
    have b17 : 0 ≤ (s0 3014) ∧ (s0 3014) ≤ 32768 := hS0 3014
    have b18 : 0 ≤ (s 3014) ∧ (s 3014) ≤ 32768 := hS 3014
    have e19 : s0 3025 = s 3025 := hF0 3025 (by decide)
    have b20 : 0 ≤ (s0 3025) ∧ (s0 3025) ≤ 31 := hS0 3025
    have b21 : 0 ≤ (s 3025) ∧ (s 3025) ≤ 31 := hS 3025
    have eB : s0 3039 = s 3039 := hF0 3039 (by decide)
    have eW : s0 3037 = s 3037 := hF0 3037 (by decide)
    have eHh : s0 3038 = s 3038 := hF0 3038 (by decide)
    have eT : s0 3036 = s 3036 := hF0 3036 (by decide)
    have eTP : s0 3014 = s 3014 := hF0 3014 (by decide)
    have hz0 : zq Z (s0 3017) (s0 3018) (s0 3019) (s0 3020) (s0 3021) (s0 3022) (s0 3023) (s0 3024) (s0 3025) (s0 3026) := by rw [hF0 3017 (by decide), hF0 3018 (by decide), hF0 3019 (by decide), hF0 3020 (by decide), hF0 3021 (by decide), hF0 3022 (by decide), hF0 3023 (by decide), hF0 3024 (by decide), hF0 3025 (by decide), hF0 3026 (by decide)]; exact hq0
    have htp : tpl A (s0 3014) (c0 34) := by rw [hF0 3014 (by decide), hG0 34 (by decide)]; exact hq2
    have b22 : 0 ≤ (s0 3050) ∧ (s0 3050) ≤ 8 := hS0 3050
    refine tt_k 3 (S' := (11, [some (.inr (.inl 30)), some (.inl y), o_2, o_3, o_4, o_5, o_6], [.inl (s0 3038), .inl y], n, D, s0, p, c0)) rfl ?_
    refine tb_ge (x := y) (y := (s0 3038)) rfl rfl (by omega) (fun h23 => ?_) (fun h23 => ?_)
    · show tt Zi d 150 (210, [some (.inr (.inl 30)), some (.inl y), o_2, o_3, o_4, o_5, o_6], [], n, D, s0, p, c0) _
      exact hK y (o_2) (o_3) (o_4) (o_5) (o_6) s0 c0 (by omega) hS0 hF0 hC0 hG0 i0 i1 i2 i3 i4 i5 (by intro hz; omega)
    · show tt Zi d 150 (14, [some (.inr (.inl 30)), some (.inl y), o_2, o_3, o_4, o_5, o_6], [], n, D, s0, p, c0) _
      refine tt_k 2 (S' := (18, [some (.inr (.inl 30)), some (.inl y), o_2, o_3, o_4, o_5, o_6], [.inl (s0 3050)], n, D, s0, p, c0)) rfl ?_
      refine tz_ne (x := (s0 3050)) rfl rfl (by omega) (fun h24 => ?_) (fun h24 => ?_)
      · show tt Zi d 150 (210, [some (.inr (.inl 30)), some (.inl y), o_2, o_3, o_4, o_5, o_6], [], n, D, s0, p, c0) _
        exact hK y (o_2) (o_3) (o_4) (o_5) (o_6) s0 c0 (by omega) hS0 hF0 hC0 hG0 i0 i1 i2 i3 i4 i5 (by intro hz; omega)
      · show tt Zi d 150 (21, [some (.inr (.inl 30)), some (.inl y), o_2, o_3, o_4, o_5, o_6], [], n, D, s0, p, c0) _
        refine tt_k 2 (S' := (23, [some (.inr (.inl 30)), some (.inl y), some (.inl 0), o_3, o_4, o_5, o_6], [], n, D, s0, p, c0)) rfl ?_
        have b25 : -2147483648 ≤ (s0 3018) ∧ (s0 3018) ≤ 2147483647 := hS0 3018
        have b26 : -2147483648 ≤ (s0 3019) ∧ (s0 3019) ≤ 2147483647 := hS0 3019
        have b27 : -2147483648 ≤ (s0 3020) ∧ (s0 3020) ≤ 2147483647 := hS0 3020
        have b28 : -2147483648 ≤ (s0 3021) ∧ (s0 3021) ≤ 2147483647 := hS0 3021
        have b29 : 0 ≤ (s0 3022) ∧ (s0 3022) ≤ 65535 := hS0 3022
        have b30 : -2147483648 ≤ (s0 3023) ∧ (s0 3023) ≤ 2147483647 := hS0 3023
        have b31 : -2147483648 ≤ (s0 3024) ∧ (s0 3024) ≤ 2147483647 := hS0 3024
        have b32 : 0 ≤ (s0 3026) ∧ (s0 3026) ≤ 96 := hS0 3026
        refine v_plane_L23 (Zi := Zi) (D := D) (s := s0) (p := p) (c := c0) hd hS0 hC0 Z A R y (by omega) hz0 hq1 htp (show (s0 3036) = 0 ∧ 1 ≤ (s0 3037) by omega) (show y < (s0 3038) ∧ (s0 3038) ≤ 64 by omega) ?_ _ 0 (o_3) (o_4) (o_5) (o_6) s0 c0 (by omega) hS0 fr_rf hC0 frc_rf (by rw [eW, eHh, eB]; exact i0) i1 i2 (show (s0 3050) = 0 → (s0 3049) ≤ (s0 3014) by omega) (by rw [eB]; exact fun _ => ofr_rf) (show 0 ≤ (s0 3037) by omega) (Nat.lt_succ_self _)
        intro x33 x34 x35 x36 x37 s38 c39 b40 hS38 f41 hC39 g42 i43 i44 i45 i46 i47 i48 hx49
        show tt Zi d 150 (204, [some (.inr (.inl 30)), some (.inl y), some (.inl x33), x34, x35, x36, x37], [], n, D, s38, p, c39) _
        have e50 : s38 3036 = (s0 3036) := (f41 3036 (by decide))
        have b51 : 0 ≤ (s38 3036) ∧ (s38 3036) ≤ 1 := hS38 3036
        have e52 : s38 3037 = (s0 3037) := (f41 3037 (by decide))
        have b53 : 0 ≤ (s38 3037) ∧ (s38 3037) ≤ 64 := hS38 3037
        have e54 : s38 3038 = (s0 3038) := (f41 3038 (by decide))
        have b55 : 0 ≤ (s38 3038) ∧ (s38 3038) ≤ 64 := hS38 3038
        have e56 : s38 3017 = (s0 3017) := (f41 3017 (by decide))
        have b57 : 0 ≤ (s38 3017) ∧ (s38 3017) ≤ 65535 := hS38 3017
        have e58 : s38 3039 = (s0 3039) := (f41 3039 (by decide))
        have b59 : 0 ≤ (s38 3039) ∧ (s38 3039) ≤ 8192 := hS38 3039
        have e60 : s38 3014 = (s0 3014) := (f41 3014 (by decide))
        have b61 : 0 ≤ (s38 3014) ∧ (s38 3014) ≤ 32768 := hS38 3014
        have e62 : s38 3025 = (s0 3025) := (f41 3025 (by decide))
        have b63 : 0 ≤ (s38 3025) ∧ (s38 3025) ≤ 31 := hS38 3025
        refine tt_k 2 (S' := (6, [some (.inr (.inl 30)), some (.inl (y + 1)), some (.inl x33), x34, x35, x36, x37], [], n, D, s38, p, c39)) rfl ?_
        have hr0 : s38 3050 = 0 → rpR A Z R (s 3037) (s 3038) (y + 1) 0 (s38 3035) (s38 3049, s38 3052, s38 3054) (s 3039) (c39 36) (c39 37) (c39 38) (c39 39) (c39 44) := by
          intro hf
          have h0 := i43 hf
          rw [eW, eHh, eB] at h0
          obtain ⟨X, hI, hdd, hmr, hpc, htr⟩ := h0
          have hxw := hx49 hf
          exact ⟨X, plJ_r hI (by omega) (by omega) (by omega), hdd, hmr, hpc, fun xx yy a1 a2 a3 a4 => htr xx yy a1 a2 a3 (by omega)⟩
        exact ih (y + 1) (some (.inl x33)) (x34) (x35) (x36) (x37) s38 c39 (by omega) hS38 (fr_tr hF0 f41 (by decide)) hC39 (frc_tr hG0 g42 (by decide)) hr0 i44 i45 (show (s38 3050) = 0 → (s38 3049) ≤ s 3014 by omega) (fun hf => ofr_tr (i4 (by omega)) (by have h := i47 hf; rw [eB] at h; exact h)) (show (y + 1) ≤ s 3038 by omega) (show (if (s38 3050) = 0 then s 3038 - (y + 1) + 1 else 0).toNat < m by omega)
set_option maxRecDepth 100000 in
set_option maxHeartbeats 4000000 in
theorem v_plane {Zi : Nat → Option (Nat × (Nat → Int))} {d n : Nat} {D : Nat → Nat × Nat} {s : Nat → Int} {p : Nat → Nat} {c : Nat → Nat → Int} (hd : 7 ≤ d) (hS : bS s) (hC : bC D c) (Z : Nat → Int) (A : TN) (hp0 : mv s) (hp1 : s 3036 = 0 ∧ s 3050 = 0 ∧ 1 ≤ s 3037) (hp2 : zq Z (s 3017) (s 3018) (s 3019) (s 3020) (s 3021) (s 3022) (s 3023) (s 3024) (s 3025) (s 3026)) (hp3 : mv Z) (hp4 : tpl A (s 3014) (c 34)) (hp5 : (0 ≤ s 3054 ∧ s 3054 ≤ 8) ∧ (0 ≤ s 3052 ∧ s 3052 ≤ 255)) (hp6 : s 3049 ≤ s 3014) : tt Zi d 150 (0, [some (.inr (.inl 30)), none, none, none, none, none, none], [], n, D, s, p, c) (fun R H => ∃ (s' : Nat → Int) (c' : Nat → Nat → Int), R = .inl none ∧ H = (n, D, s', p, c') ∧ bS s' ∧ bC D c' ∧ fr s s' [3035, 3041, 3042, 3043, 3044, 3045, 3046, 3049, 3050, 3051, 3052, 3053, 3054] ∧ frc c c' [36, 37, 38, 39, 40, 41, 42, 43, 44] ∧ (s' 3050 = 0 → ∃ X, (plQ A Z (s 3037) (s 3038) 5000 0 0 ((s 3049, s 3052, s 3054), mB (Z 3024), 0, fun _ => 0)) = some X ∧ (s' 3049, s' 3052, s' 3054) = X.1 ∧ mrl X.2.1 (c' 40) (c' 41) (c' 42) (c' 43) ∧ trl X.2.2.2 (s 3039) (s 3037) 0 (s 3038) (c' 44)) ∧ (s' 3050 ≠ 0 → (plQ A Z (s 3037) (s 3038) 5000 0 0 ((s 3049, s 3052, s 3054), mB (Z 3024), 0, fun _ => 0)) = none) ∧ (s' 3050 ≠ 0 → c' 40 = c 40 ∧ c' 41 = c 41 ∧ c' 42 = c 42 ∧ c' 43 = c 43) ∧ (s' 3050 = 0 → (0 ≤ s' 3054 ∧ s' 3054 ≤ 8) ∧ (0 ≤ s' 3052 ∧ s' 3052 ≤ 255)) ∧ (s' 3050 = 0 → s' 3049 ≤ s 3014) ∧ (s' 3050 = 0 → ofr (s 3039) (c 44) (c' 44))) := by
  have mvx := mv_fx hp0
  refine tt_k 1 (S' := (1, [some (.inr (.inl 30)), none, none, none, none, none, none], [.inr (.inl 30)], n, D, s, p, c)) rfl ?_
  have b1 : -2147483648 ≤ (s 3024) ∧ (s 3024) ≤ 2147483647 := hS 3024
  refine tt_cl (by omega) rfl (k_beginPlane (Zi := Zi) (D := D) (s := s) (p := p) (c := c) (by omega) hS hC (show 1 ≤ (s 3024) ∧ (s 3024) ≤ 65536 by omega)) ?_
  rintro _ _ ⟨s2, c3, rfl, rfl, hS2, hC3, f4, g5, k6, k7, k8, k9, k10⟩
  have hc11 : mv s2 := mv_fr f4 (by decide) hp0
  show tt Zi d 150 (4, [some (.inr (.inl 30)), none, none, none, none, none, none], [], n, D, s2, p, c3) _
  replace k6 : ∀ i : Nat, (i : Int) < 367 → (c3 36) i = max 2 (((s 3024) + 32) / 64) := k6
  replace k7 : ∀ i : Nat, (i : Int) < 367 → (c3 37) i = 0 := k7
  replace k8 : ∀ i : Nat, (i : Int) < 367 → (c3 38) i = 0 := k8
  replace k9 : ∀ i : Nat, (i : Int) < 367 → (c3 39) i = 1 := k9
  replace k10 : (s2 3035) = 0 := k10
  have b12 : 0 ≤ (s2 3035) ∧ (s2 3035) ≤ 31 := hS2 3035
  have e13 : s2 3050 = (s 3050) := (f4 3050 (by decide))
  have b14 : 0 ≤ (s2 3050) ∧ (s2 3050) ≤ 8 := hS2 3050
  have b15 : 0 ≤ (s 3050) ∧ (s 3050) ≤ 8 := hS 3050
  have e16 : s2 3036 = (s 3036) := (f4 3036 (by decide))
  have b17 : 0 ≤ (s2 3036) ∧ (s2 3036) ≤ 1 := hS2 3036
  have b18 : 0 ≤ (s 3036) ∧ (s 3036) ≤ 1 := hS 3036
  have e19 : s2 3037 = (s 3037) := (f4 3037 (by decide))
  have b20 : 0 ≤ (s2 3037) ∧ (s2 3037) ≤ 64 := hS2 3037
  have b21 : 0 ≤ (s 3037) ∧ (s 3037) ≤ 64 := hS 3037
  have e22 : s2 3038 = (s 3038) := (f4 3038 (by decide))
  have b23 : 0 ≤ (s2 3038) ∧ (s2 3038) ≤ 64 := hS2 3038
  have b24 : 0 ≤ (s 3038) ∧ (s 3038) ≤ 64 := hS 3038
  have e25 : s2 3017 = (s 3017) := (f4 3017 (by decide))
  have b26 : 0 ≤ (s2 3017) ∧ (s2 3017) ≤ 65535 := hS2 3017
  have b27 : 0 ≤ (s 3017) ∧ (s 3017) ≤ 65535 := hS 3017
  have e28 : s2 3039 = (s 3039) := (f4 3039 (by decide))
  have b29 : 0 ≤ (s2 3039) ∧ (s2 3039) ≤ 8192 := hS2 3039
  have b30 : 0 ≤ (s 3039) ∧ (s 3039) ≤ 8192 := hS 3039
  have e31 : s2 3049 = (s 3049) := (f4 3049 (by decide))
  have b32 : 0 ≤ (s2 3049) ∧ (s2 3049) ≤ 32769 := hS2 3049
  have b33 : 0 ≤ (s 3049) ∧ (s 3049) ≤ 32769 := hS 3049
  have e34 : s2 3014 = (s 3014) := (f4 3014 (by decide))
  have b35 : 0 ≤ (s2 3014) ∧ (s2 3014) ≤ 32768 := hS2 3014
  have b36 : 0 ≤ (s 3014) ∧ (s 3014) ≤ 32768 := hS 3014
  have e37 : s2 3052 = (s 3052) := (f4 3052 (by decide))
  have b38 : 0 ≤ (s2 3052) ∧ (s2 3052) ≤ 255 := hS2 3052
  have b39 : 0 ≤ (s 3052) ∧ (s 3052) ≤ 255 := hS 3052
  have e40 : s2 3054 = (s 3054) := (f4 3054 (by decide))
  have b41 : 0 ≤ (s2 3054) ∧ (s2 3054) ≤ 8 := hS2 3054
  have b42 : 0 ≤ (s 3054) ∧ (s 3054) ≤ 8 := hS 3054
  have e43 : s2 3025 = (s 3025) := (f4 3025 (by decide))
  have b44 : 0 ≤ (s2 3025) ∧ (s2 3025) ≤ 31 := hS2 3025
  have b45 : 0 ≤ (s 3025) ∧ (s 3025) ≤ 31 := hS 3025
  have hx46 : zq Z (s2 3017) (s2 3018) (s2 3019) (s2 3020) (s2 3021) (s2 3022) (s2 3023) (s2 3024) (s2 3025) (s2 3026) := by rw [f4 3017 (by decide), f4 3018 (by decide), f4 3019 (by decide), f4 3020 (by decide), f4 3021 (by decide), f4 3022 (by decide), f4 3023 (by decide), f4 3024 (by decide), f4 3025 (by decide), f4 3026 (by decide)]; exact hp2
  have hx47 : tpl A (s2 3014) (c3 34) := by rw [f4 3014 (by decide), g5 34 (by decide)]; exact hp4
  have z7 : s 3024 = Z 3024 := hp2.2.2.2.2.2.2.2.1
  have hmB : mrl (mB (Z 3024)) (c3 36) (c3 37) (c3 38) (c3 39) := fun i hi => ⟨by rw [k6 i (by omega), z7]; rfl, k7 i (by omega), k8 i (by omega), k9 i (by omega)⟩
  have hp0z : s2 3035 = 0 := k10
  have eB : s2 3039 = s 3039 := f4 3039 (by decide)
  have eW : s2 3037 = s 3037 := f4 3037 (by decide)
  have eHh : s2 3038 = s 3038 := f4 3038 (by decide)
  have eA : s2 3049 = s 3049 := f4 3049 (by decide)
  have eN : s2 3052 = s 3052 := f4 3052 (by decide)
  have eL : s2 3054 = s 3054 := f4 3054 (by decide)
  have e44 : c3 44 = c 44 := g5 44 (by decide)
  clear k6 k7 k8 k9
  refine tt_k 2 (S' := (6, [some (.inr (.inl 30)), some (.inl 0), none, none, none, none, none], [], n, D, s2, p, c3)) rfl ?_
  have b48 : -2147483648 ≤ (s2 3018) ∧ (s2 3018) ≤ 2147483647 := hS2 3018
  have b49 : -2147483648 ≤ (s2 3019) ∧ (s2 3019) ≤ 2147483647 := hS2 3019
  have b50 : -2147483648 ≤ (s2 3020) ∧ (s2 3020) ≤ 2147483647 := hS2 3020
  have b51 : -2147483648 ≤ (s2 3021) ∧ (s2 3021) ≤ 2147483647 := hS2 3021
  have b52 : 0 ≤ (s2 3022) ∧ (s2 3022) ≤ 65535 := hS2 3022
  have b53 : -2147483648 ≤ (s2 3023) ∧ (s2 3023) ≤ 2147483647 := hS2 3023
  have b54 : -2147483648 ≤ (s2 3024) ∧ (s2 3024) ≤ 2147483647 := hS2 3024
  have b55 : 0 ≤ (s2 3026) ∧ (s2 3026) ≤ 96 := hS2 3026
  refine v_plane_L6 (Zi := Zi) (D := D) (s := s2) (p := p) (c := c3) hd hS2 hC3 Z A (plQ A Z (s 3037) (s 3038) 5000 0 0 ((s 3049, s 3052, s 3054), mB (Z 3024), 0, fun _ => 0))  hx46 hp3 hx47 (show (s2 3036) = 0 ∧ 1 ≤ (s2 3037) by omega) ?_ _ 0 (none) (none) (none) (none) (none) s2 c3 (by omega) hS2 fr_rf hC3 frc_rf (fun _ => by rw [eW, eHh, eB, eA, eN, eL]; exact ⟨_, plJ_0 hp3 (by omega) (by omega), rfl, hmB, hp0z, fun xx yy h1 h2 h3 h4 => absurd h4 (by omega)⟩) (fun h => absurd hp1.2.1 (by omega)) (show (s2 3050) = 0 → (0 ≤ (s2 3054) ∧ (s2 3054) ≤ 8) ∧ (0 ≤ (s2 3052) ∧ (s2 3052) ≤ 255) by omega) (show (s2 3050) = 0 → (s2 3049) ≤ (s2 3014) by omega) (fun _ => ofr_rf) (show 0 ≤ (s2 3038) by omega) (Nat.lt_succ_self _)
  intro x56 x57 x58 x59 x60 x61 s62 c63 b64 hS62 f65 hC63 g66 i67 i68 i69 i70 i71 i72 hx73
  show tt Zi d 150 (210, [some (.inr (.inl 30)), some (.inl x56), x57, x58, x59, x60, x61], [], n, D, s62, p, c63) _
  have hc74 : mv s62 := mv_fr f65 (by decide) hc11
  have e75 : s62 3036 = (s2 3036) := (f65 3036 (by decide))
  have b76 : 0 ≤ (s62 3036) ∧ (s62 3036) ≤ 1 := hS62 3036
  have e77 : s62 3037 = (s2 3037) := (f65 3037 (by decide))
  have b78 : 0 ≤ (s62 3037) ∧ (s62 3037) ≤ 64 := hS62 3037
  have e79 : s62 3038 = (s2 3038) := (f65 3038 (by decide))
  have b80 : 0 ≤ (s62 3038) ∧ (s62 3038) ≤ 64 := hS62 3038
  have e81 : s62 3017 = (s2 3017) := (f65 3017 (by decide))
  have b82 : 0 ≤ (s62 3017) ∧ (s62 3017) ≤ 65535 := hS62 3017
  have e83 : s62 3039 = (s2 3039) := (f65 3039 (by decide))
  have b84 : 0 ≤ (s62 3039) ∧ (s62 3039) ≤ 8192 := hS62 3039
  have e85 : s62 3014 = (s2 3014) := (f65 3014 (by decide))
  have b86 : 0 ≤ (s62 3014) ∧ (s62 3014) ≤ 32768 := hS62 3014
  have e87 : s62 3025 = (s2 3025) := (f65 3025 (by decide))
  have b88 : 0 ≤ (s62 3025) ∧ (s62 3025) ≤ 31 := hS62 3025
  have hx89 : zq Z (s62 3017) (s62 3018) (s62 3019) (s62 3020) (s62 3021) (s62 3022) (s62 3023) (s62 3024) (s62 3025) (s62 3026) := by rw [f65 3017 (by decide), f65 3018 (by decide), f65 3019 (by decide), f65 3020 (by decide), f65 3021 (by decide), f65 3022 (by decide), f65 3023 (by decide), f65 3024 (by decide), f65 3025 (by decide), f65 3026 (by decide)]; exact hx46
  have hx90 : tpl A (s62 3014) (c63 34) := by rw [f65 3014 (by decide), g66 34 (by decide)]; exact hx47
  refine tt_k 2 (S' := (214, [some (.inr (.inl 30)), some (.inl x56), x57, x58, x59, x60, x61], [.inl (s62 3050)], n, D, s62, p, c63)) rfl ?_
  have b91 : 0 ≤ (s62 3050) ∧ (s62 3050) ≤ 8 := hS62 3050
  refine tz_ne (x := (s62 3050)) rfl rfl (by omega) (fun h92 => ?_) (fun h92 => ?_)
  · show tt Zi d 150 (221, [some (.inr (.inl 30)), some (.inl x56), x57, x58, x59, x60, x61], [], n, D, s62, p, c63) _
    exact tt_rtv rfl rfl ⟨s62, c63, rfl, rfl, hS62, hC63, (fr_tr (fr_tr fr_rf f4 (by decide)) f65 (by decide)), (frc_tr (frc_tr frc_rf g5 (by decide)) g66 (by decide)), fun hf => absurd hf (by omega), fun hf => i68 hf, fun _ => ⟨((g66 40 (by decide)).trans (g5 40 (by decide))), ((g66 41 (by decide)).trans (g5 41 (by decide))), ((g66 42 (by decide)).trans (g5 42 (by decide))), ((g66 43 (by decide)).trans (g5 43 (by decide)))⟩, by show (s62 3050) = 0 → (0 ≤ (s62 3054) ∧ (s62 3054) ≤ 8) ∧ (0 ≤ (s62 3052) ∧ (s62 3052) ≤ 255); omega, by show (s62 3050) = 0 → (s62 3049) ≤ s 3014; omega, fun hf => absurd hf (by omega)⟩
  · show tt Zi d 150 (217, [some (.inr (.inl 30)), some (.inl x56), x57, x58, x59, x60, x61], [], n, D, s62, p, c63) _
    refine tt_k 1 (S' := (218, [some (.inr (.inl 30)), some (.inl x56), x57, x58, x59, x60, x61], [.inr (.inl 30)], n, D, s62, p, c63)) rfl ?_
    have hf0 : s62 3050 = 0 := by omega
    have h0 := i67 hf0
    rw [eW, eHh, eB] at h0
    obtain ⟨X, hI, hdd, hmr, hpc, htr⟩ := h0
    have hyh := hx73 hf0
    have hR := plJ_e hI (by omega) (by omega) (by omega)
    refine tt_cl (by omega) rfl (x_keep (Zi := Zi) (D := D) (s := s62) (p := p) (c := c63) (by omega) hS62 hC63 X.2.1 hmr) ?_
    rintro _ _ ⟨c93, rfl, rfl, hC93, g94, k95⟩
    show tt Zi d 150 (221, [some (.inr (.inl 30)), some (.inl x56), x57, x58, x59, x60, x61], [], n, D, s62, p, c93) _
    replace k95 : mrl X.2.1 ((c93 40)) ((c93 41)) ((c93 42)) ((c93 43)) := k95
    have hx96 : tpl A (s62 3014) (c93 34) := by rw [g94 34 (by decide)]; exact hx90
    exact tt_rtv rfl rfl ⟨s62, c93, rfl, rfl, hS62, hC93, (fr_tr (fr_tr fr_rf f4 (by decide)) f65 (by decide)), (frc_tr (frc_tr (frc_tr frc_rf g5 (by decide)) g66 (by decide)) g94 (by decide)), fun _ => ⟨X, hR, hdd, k95, by rw [g94 44 (by decide)]; exact fun xx yy a1 a2 a3 a4 => htr xx yy a1 a2 a3 (by omega)⟩, fun hf => absurd hf0 hf, fun hf => absurd hf0 hf, by show (s62 3050) = 0 → (0 ≤ (s62 3054) ∧ (s62 3054) ≤ 8) ∧ (0 ≤ (s62 3052) ∧ (s62 3052) ≤ 255); omega, by show (s62 3050) = 0 → (s62 3049) ≤ s 3014; omega, fun _ => by rw [g94 44 (by decide)]; have h := i71 hf0; rw [eB, e44] at h; exact h⟩
