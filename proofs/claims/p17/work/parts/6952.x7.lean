/-! the reference's plane, exactly -/
def plR (Z : Nat → Int) (S : Int → Int → Int) (R : XT) (U w h y x pc z he r base : Int) (fw fa fb fc fn ft : Nat → Int) : Prop := ∃ X : XT, plI Z w h S R U y x X ∧ wrl X.1 z he r fw ∧ mrl X.2.1 fa fb fc fn ∧ pc = X.2.2.1 ∧ trl X.2.2.2 base w x y ft
theorem pl_tr {Z s : Nat → Int} {t : Int} {M : MT} {c : Nat → Nat → Int} (hq : s 3025 = Z 3025) (h : mrl M (c 36) (c 37) (c 38) (c 39)) (hp : pl Z t M) : pl s t c := by
  intro i hi
  have h1 := hp i hi
  obtain ⟨e1, e2, e3, e4⟩ := h i hi
  unfold pli qq at h1 ⊢
  rw [hq, e1, e2, e3, e4]
  exact h1
set_option maxRecDepth 100000 in
set_option maxHeartbeats 4000000 in
theorem x_plane_L23 {Zi : Nat → Option (Nat × (Nat → Int))} {d n : Nat} {D : Nat → Nat × Nat} {s : Nat → Int} {p : Nat → Nat} {c : Nat → Nat → Int}  {Q : mi_Rs → mi_H → Prop} (hd : 6 ≤ d) (hS : bS s) (hC : bC D c) (Z : Nat → Int) (S : Int → Int → Int) (R : XT) (U : Int) (y : Int) (b_y : 0 ≤ y ∧ y ≤ 63) (hq0 : zq Z (s 3017) (s 3018) (s 3019) (s 3020) (s 3021) (s 3022) (s 3023) (s 3024) (s 3025) (s 3026)) (hq1 : mv Z) (hq2 : ∀ yy : Int, 0 ≤ yy → yy < s 3038 → smc (S yy) (s 3039 + 64 * yy) (s 3037) (c 31)) (hq3 : ∀ yy : Int, 0 ≤ yy → yy < s 3038 → ∀ xx : Int, 0 ≤ xx → xx < s 3037 → 0 ≤ S yy xx ∧ S yy xx ≤ Z 3017) (hq4 : s 3036 = 1 ∧ s 3050 = 0 ∧ 1 ≤ s 3037) (hq5 : U + cb Z * 4096 + 104857600 ≤ 17179869184) (hq6 : y < s 3038)
  (hK : ∀ (x : Int) (o_3 : Option mi_V) (o_4 : Option mi_V) (o_5 : Option mi_V) (o_6 : Option mi_V) (s0 : Nat → Int) (c0 : Nat → Nat → Int) (b_x : 0 ≤ x ∧ x ≤ 64) (hS0 : bS s0) (hF0 : fr s s0 [3016, 3035, 3041, 3042, 3043, 3044, 3045, 3046, 3047, 3048]) (hC0 : bC D c0) (hG0 : frc c c0 [35, 36, 37, 38, 39, 44]) (i0 : plR Z S R U (s 3037) (s 3038) y x (s0 3035) (s0 3016) (s0 3047) (s0 3048) (s 3039) (c0 35) (c0 36) (c0 37) (c0 38) (c0 39) (c0 44)) (i1 : x ≤ s 3037), (s 3037 ≤ x) → tt Zi d 150 (204, [some (.inr (.inl 30)), some (.inl y), some (.inl x), o_3, o_4, o_5, o_6], [], n, D, s0, p, c0) Q) :
  ∀ (m : Nat) (x : Int) (o_3 : Option mi_V) (o_4 : Option mi_V) (o_5 : Option mi_V) (o_6 : Option mi_V) (s0 : Nat → Int) (c0 : Nat → Nat → Int) (b_x : 0 ≤ x ∧ x ≤ 64) (hS0 : bS s0) (hF0 : fr s s0 [3016, 3035, 3041, 3042, 3043, 3044, 3045, 3046, 3047, 3048]) (hC0 : bC D c0) (hG0 : frc c c0 [35, 36, 37, 38, 39, 44]) (i0 : plR Z S R U (s 3037) (s 3038) y x (s0 3035) (s0 3016) (s0 3047) (s0 3048) (s 3039) (c0 35) (c0 36) (c0 37) (c0 38) (c0 39) (c0 44)) (i1 : x ≤ s 3037), (s 3037 - x).toNat < m → tt Zi d 150 (23, [some (.inr (.inl 30)), some (.inl y), some (.inl x), o_3, o_4, o_5, o_6], [], n, D, s0, p, c0) Q := by
  intro m
  induction m with
  | zero => intro x o_3 o_4 o_5 o_6 s0 c0 b_x hS0 hF0 hC0 hG0 i0 i1 hm; exact absurd hm (by omega)
  | succ m ih =>
    intro x o_3 o_4 o_5 o_6 s0 c0 b_x hS0 hF0 hC0 hG0 i0 i1 hm
    have e1 : s0 3050 = s 3050 := hF0 3050 (by decide)
    have b2 : 0 ≤ (s0 3050) ∧ (s0 3050) ≤ 8 := hS0 3050
    have b3 : 0 ≤ (s 3050) ∧ (s 3050) ≤ 8 := hS 3050
    have e4 : s0 3036 = s 3036 := hF0 3036 (by decide)
    have b5 : 0 ≤ (s0 3036) ∧ (s0 3036) ≤ 1 := hS0 3036
    have b6 : 0 ≤ (s 3036) ∧ (s 3036) ≤ 1 := hS 3036
    have e7 : s0 3037 = s 3037 := hF0 3037 (by decide)
    have b8 : 0 ≤ (s0 3037) ∧ (s0 3037) ≤ 64 := hS0 3037
    have b9 : 0 ≤ (s 3037) ∧ (s 3037) ≤ 64 := hS 3037
    have e10 : s0 3038 = s 3038 := hF0 3038 (by decide)
    have b11 : 0 ≤ (s0 3038) ∧ (s0 3038) ≤ 64 := hS0 3038
    have b12 : 0 ≤ (s 3038) ∧ (s 3038) ≤ 64 := hS 3038
    have e13 : s0 3017 = s 3017 := hF0 3017 (by decide)
    have b14 : 0 ≤ (s0 3017) ∧ (s0 3017) ≤ 65535 := hS0 3017
    have b15 : 0 ≤ (s 3017) ∧ (s 3017) ≤ 65535 := hS 3017
    have e16 : s0 3039 = s 3039 := hF0 3039 (by decide)
    have b17 : 0 ≤ (s0 3039) ∧ (s0 3039) ≤ 8192 := hS0 3039
    have b18 : 0 ≤ (s 3039) ∧ (s 3039) ≤ 8192 := hS 3039
    obtain ⟨X, hI, hwr, hmr, hpc, htr⟩ := i0
    have hvX := hI.1
    have hz0 : zq Z (s0 3017) (s0 3018) (s0 3019) (s0 3020) (s0 3021) (s0 3022) (s0 3023) (s0 3024) (s0 3025) (s0 3026) := by rw [hF0 3017 (by decide), hF0 3018 (by decide), hF0 3019 (by decide), hF0 3020 (by decide), hF0 3021 (by decide), hF0 3022 (by decide), hF0 3023 (by decide), hF0 3024 (by decide), hF0 3025 (by decide), hF0 3026 (by decide)]; exact hq0
    have hzc := hz0
    obtain ⟨z0, z1, z2, z3, z4, z5, z6, z7, z8, z9⟩ := hzc
    have mvx := mv_fx (s := Z) hq1
    have hmv0 : mv s0 := by have h := hq1; unfold mv at h ⊢; rw [z0, z1, z2, z3, z4, z5, z6, z7, z8, z9]; exact h
    have eB : s0 3039 = s 3039 := hF0 3039 (by decide)
    have eW : s0 3037 = s 3037 := hF0 3037 (by decide)
    have eHh : s0 3038 = s 3038 := hF0 3038 (by decide)
    have eT : s0 3036 = s 3036 := hF0 3036 (by decide)
    have eF : s0 3050 = s 3050 := hF0 3050 (by decide)
    have e31 : c0 31 = c 31 := hG0 31 (by decide)
    have hzb := plI_z hI (by omega) (by omega)
    have hcb := cb_bd (s := Z)
    have hcm : cb Z * (64 * y + x) ≤ cb Z * 4096 := Int.mul_le_mul_of_nonneg_left (by omega) (by omega)
    have hsz : s0 3016 = X.1.2.1 := hwr.1.symm
    have hWO : w_ok (s0 3047) (s0 3048) := by rw [← hwr.2.1, ← hwr.2.2.1]; exact hvX.2.2.2.1
    have hvb := hvX.2.2.1
    have htr0 : trl X.2.2.2 (s0 3039) (s0 3037) x y (c0 44) := by rw [eB, eW]; exact htr
    have htb0 : tb (s0 3037) (s0 3039) (s0 3017) (c0 44) x y := by rw [z0]; exact tb_tr htr0 (by rw [eW]; exact hvX.2.1)
    have hpl0 : pl s0 (64 * y + x) c0 := pl_tr z8 hmr hvX.1
    refine tt_k 3 (S' := (28, [some (.inr (.inl 30)), some (.inl y), some (.inl x), o_3, o_4, o_5, o_6], [.inl (s0 3037), .inl x], n, D, s0, p, c0)) rfl ?_
    refine tb_ge (x := x) (y := (s0 3037)) rfl rfl (by omega) (fun h19 => ?_) (fun h19 => ?_)
    · show tt Zi d 150 (204, [some (.inr (.inl 30)), some (.inl y), some (.inl x), o_3, o_4, o_5, o_6], [], n, D, s0, p, c0) _
      exact hK x (o_3) (o_4) (o_5) (o_6) s0 c0 (by omega) hS0 hF0 hC0 hG0 ⟨X, hI, hwr, hmr, hpc, htr⟩ (show x ≤ s 3037 by omega) (by omega)
    · show tt Zi d 150 (31, [some (.inr (.inl 30)), some (.inl y), some (.inl x), o_3, o_4, o_5, o_6], [], n, D, s0, p, c0) _
      refine tt_k 2 (S' := (35, [some (.inr (.inl 30)), some (.inl y), some (.inl x), o_3, o_4, o_5, o_6], [.inl (s0 3050)], n, D, s0, p, c0)) rfl ?_
      refine tz_ne (x := (s0 3050)) rfl rfl (by omega) (fun h20 => ?_) (fun h20 => ?_)
      · exfalso; omega
      · show tt Zi d 150 (38, [some (.inr (.inl 30)), some (.inl y), some (.inl x), o_3, o_4, o_5, o_6], [], n, D, s0, p, c0) _
        refine tt_k 3 (S' := (41, [some (.inr (.inl 30)), some (.inl y), some (.inl x), o_3, o_4, o_5, o_6], [.inl y, .inl x, .inr (.inl 30)], n, D, s0, p, c0)) rfl ?_
        refine tt_cl (by omega) rfl (y_neighbours (Zi := Zi) (D := D) (s := s0) (p := p) (c := c0) (by omega) hS0 hC0 X.2.2.2 x y (by omega) (by omega) (show x < (s0 3037) by omega) htb0 htr0) ?_
        rintro _ _ ⟨s21, rfl, rfl, hS21, f22, k23, k24, k25, k26, k27⟩
        have hc28 : mv s21 := mv_fr f22 (by decide) hmv0
        show tt Zi d 150 (44, [some (.inr (.inl 30)), some (.inl y), some (.inl x), o_3, o_4, o_5, o_6], [], n, D, s21, p, c0) _
        replace k23 : (0 ≤ (s21 3041) ∧ (s21 3041) ≤ (s0 3017)) ∧ (0 ≤ (s21 3042) ∧ (s21 3042) ≤ (s0 3017)) ∧ (0 ≤ (s21 3043) ∧ (s21 3043) ≤ (s0 3017)) ∧ (0 ≤ (s21 3044) ∧ (s21 3044) ≤ (s0 3017)) := k23
        replace k24 : (s21 3041) = nA X.2.2.2 x y := k24
        replace k25 : (s21 3042) = nB X.2.2.2 x y := k25
        replace k26 : (s21 3043) = nC X.2.2.2 x y := k26
        replace k27 : (s21 3044) = nD X.2.2.2 ((s0 3037)) x y := k27
        have b29 : 0 ≤ (s21 3041) ∧ (s21 3041) ≤ 65535 := hS21 3041
        have b30 : 0 ≤ (s21 3042) ∧ (s21 3042) ≤ 65535 := hS21 3042
        have b31 : 0 ≤ (s21 3043) ∧ (s21 3043) ≤ 65535 := hS21 3043
        have b32 : 0 ≤ (s21 3044) ∧ (s21 3044) ≤ 65535 := hS21 3044
        have e33 : s21 3050 = (s0 3050) := (f22 3050 (by decide))
        have b34 : 0 ≤ (s21 3050) ∧ (s21 3050) ≤ 8 := hS21 3050
        have e35 : s21 3036 = (s0 3036) := (f22 3036 (by decide))
        have b36 : 0 ≤ (s21 3036) ∧ (s21 3036) ≤ 1 := hS21 3036
        have e37 : s21 3037 = (s0 3037) := (f22 3037 (by decide))
        have b38 : 0 ≤ (s21 3037) ∧ (s21 3037) ≤ 64 := hS21 3037
        have e39 : s21 3038 = (s0 3038) := (f22 3038 (by decide))
        have b40 : 0 ≤ (s21 3038) ∧ (s21 3038) ≤ 64 := hS21 3038
        have e41 : s21 3017 = (s0 3017) := (f22 3017 (by decide))
        have b42 : 0 ≤ (s21 3017) ∧ (s21 3017) ≤ 65535 := hS21 3017
        have e43 : s21 3039 = (s0 3039) := (f22 3039 (by decide))
        have b44 : 0 ≤ (s21 3039) ∧ (s21 3039) ≤ 8192 := hS21 3039
        have e45 : s21 3035 = (s0 3035) := (f22 3035 (by decide))
        have b46 : 0 ≤ (s21 3035) ∧ (s21 3035) ≤ 31 := hS21 3035
        have b47 : 0 ≤ (s0 3035) ∧ (s0 3035) ≤ 31 := hS0 3035
        have e48 : s21 3016 = (s0 3016) := (f22 3016 (by decide))
        have b49 : 0 ≤ (s21 3016) ∧ (s21 3016) ≤ 65536 := hS21 3016
        have b50 : 0 ≤ (s0 3016) ∧ (s0 3016) ≤ 65536 := hS0 3016
        have hx51 : wrl X.1 (s21 3016) (s21 3047) (s21 3048) (c0 35) := by rw [f22 3016 (by decide), f22 3047 (by decide), f22 3048 (by decide)]; exact hwr
        have hx52 : zq Z (s21 3017) (s21 3018) (s21 3019) (s21 3020) (s21 3021) (s21 3022) (s21 3023) (s21 3024) (s21 3025) (s21 3026) := by rw [f22 3017 (by decide), f22 3018 (by decide), f22 3019 (by decide), f22 3020 (by decide), f22 3021 (by decide), f22 3022 (by decide), f22 3023 (by decide), f22 3024 (by decide), f22 3025 (by decide), f22 3026 (by decide)]; exact hz0
        have la : s21 3041 = (nA X.2.2.2 x y) := k24
        have lb : s21 3042 = (nB X.2.2.2 x y) := k25
        have lc : s21 3043 = (nC X.2.2.2 x y) := k26
        have ld : s21 3044 = (nD X.2.2.2 (s 3037) x y) := by have h := k27; rw [eW] at h; exact h
        clear k24 k25 k26 k27
        have vB_ : s21 3039 = s0 3039 := f22 3039 (by decide)
        have vW_ : s21 3037 = s0 3037 := f22 3037 (by decide)
        have vS_ : s21 3016 = s0 3016 := f22 3016 (by decide)
        have vH_ : s21 3047 = s0 3047 := f22 3047 (by decide)
        have vR_ : s21 3048 = s0 3048 := f22 3048 (by decide)
        have vP_ : s21 3035 = s0 3035 := f22 3035 (by decide)
        have vQ_ : s21 3025 = s0 3025 := f22 3025 (by decide)
        have vM_ : s21 3017 = s0 3017 := f22 3017 (by decide)
        have hpl5 : pl s21 (64 * y + x) c0 := pl_eq vQ_ rfl rfl rfl rfl hpl0
        have hWO5 : w_ok (s21 3047) (s21 3048) := by rw [vH_, vR_]; exact hWO
        refine tt_k 6 (S' := (54, [some (.inr (.inl 30)), some (.inl y), some (.inl x), o_3, o_4, o_5, o_6], [.inl ((s21 3044) - (s21 3042)), .inr (.inl 30)], n, D, s21, p, c0)) rfl ?_
        have b53 : -2147483648 ≤ (s21 3018) ∧ (s21 3018) ≤ 2147483647 := hS21 3018
        have b54 : -2147483648 ≤ (s21 3019) ∧ (s21 3019) ≤ 2147483647 := hS21 3019
        have b55 : -2147483648 ≤ (s21 3020) ∧ (s21 3020) ≤ 2147483647 := hS21 3020
        have b56 : -2147483648 ≤ (s21 3021) ∧ (s21 3021) ≤ 2147483647 := hS21 3021
        have b57 : 0 ≤ (s21 3022) ∧ (s21 3022) ≤ 65535 := hS21 3022
        have b58 : -2147483648 ≤ (s21 3023) ∧ (s21 3023) ≤ 2147483647 := hS21 3023
        have b59 : -2147483648 ≤ (s21 3024) ∧ (s21 3024) ≤ 2147483647 := hS21 3024
        have b60 : 0 ≤ (s21 3025) ∧ (s21 3025) ≤ 31 := hS21 3025
        have b61 : 0 ≤ (s21 3026) ∧ (s21 3026) ≤ 96 := hS21 3026
        refine tt_cl (by omega) rfl (x_gradeOf (Zi := Zi) (D := D) (s := s21) (p := p) (c := c0) (by omega) hS21 hC0 Z ((s21 3044) - (s21 3042)) (by omega) hx52) ?_
        rintro _ _ ⟨r62, rfl, rfl, b63, k64⟩
        show tt Zi d 150 (57, [some (.inr (.inl 30)), some (.inl y), some (.inl x), o_3, o_4, o_5, o_6], [.inl r62], n, D, s21, p, c0) _
        replace k64 : r62 = fG Z ((s21 3044) - (s21 3042)) := k64
        have g0 : r62 = fG Z ((nD X.2.2.2 (s 3037) x y) - (nB X.2.2.2 x y)) := by rw [k64, ld, lb]
        clear k64
        refine tt_k 7 (S' := (68, [some (.inr (.inl 30)), some (.inl y), some (.inl x), some (.inl r62), o_4, o_5, o_6], [.inl ((s21 3042) - (s21 3043)), .inr (.inl 30)], n, D, s21, p, c0)) rfl ?_
        refine tt_cl (by omega) rfl (x_gradeOf (Zi := Zi) (D := D) (s := s21) (p := p) (c := c0) (by omega) hS21 hC0 Z ((s21 3042) - (s21 3043)) (by omega) hx52) ?_
        rintro _ _ ⟨r65, rfl, rfl, b66, k67⟩
        show tt Zi d 150 (71, [some (.inr (.inl 30)), some (.inl y), some (.inl x), some (.inl r62), o_4, o_5, o_6], [.inl r65], n, D, s21, p, c0) _
        replace k67 : r65 = fG Z ((s21 3042) - (s21 3043)) := k67
        have g1 : r65 = fG Z ((nB X.2.2.2 x y) - (nC X.2.2.2 x y)) := by rw [k67, lb, lc]
        clear k67
        refine tt_k 7 (S' := (83, [some (.inr (.inl 30)), some (.inl y), some (.inl x), some (.inl r62), some (.inl r65), o_5, o_6], [.inl ((s21 3043) - (s21 3041)), .inr (.inl 30)], n, D, s21, p, c0)) rfl ?_
        refine tt_cl (by omega) rfl (x_gradeOf (Zi := Zi) (D := D) (s := s21) (p := p) (c := c0) (by omega) hS21 hC0 Z ((s21 3043) - (s21 3041)) (by omega) hx52) ?_
        rintro _ _ ⟨r68, rfl, rfl, b69, k70⟩
        show tt Zi d 150 (86, [some (.inr (.inl 30)), some (.inl y), some (.inl x), some (.inl r62), some (.inl r65), o_5, o_6], [.inl r68], n, D, s21, p, c0) _
        replace k70 : r68 = fG Z ((s21 3043) - (s21 3041)) := k70
        have g2 : r68 = fG Z ((nC X.2.2.2 x y) - (nA X.2.2.2 x y)) := by rw [k70, lc, la]
        clear k70
        have hgs : (gsX Z (s 3037) y x X) = 81 * r62 + 9 * r65 + r68 := by unfold gsX gsm; rw [g0, g1, g2]
        have hSy := hq3 y (by omega) (by omega)
        refine tt_k 2 (S' := (89, [some (.inr (.inl 30)), some (.inl y), some (.inl x), some (.inl r62), some (.inl r65), some (.inl r68), o_6], [.inl r62], n, D, s21, p, c0)) rfl ?_
        refine tz_ne (x := r62) rfl rfl (by omega) (fun h71 => ?_) (fun h71 => ?_)
        · show tt Zi d 150 (130, [some (.inr (.inl 30)), some (.inl y), some (.inl x), some (.inl r62), some (.inl r65), some (.inl r68), o_6], [], n, D, s21, p, c0) _
          refine tt_k 2 (S' := (132, [some (.inr (.inl 30)), some (.inl y), some (.inl x), some (.inl r62), some (.inl r65), some (.inl r68), o_6], [.inl r62, .inr (.inl 30)], n, D, s21, p, c0)) rfl ?_
          have K73 : ∀ (j72 : Int) , (0 ≤ j72 ∧ j72 ≤ 1) → (j72 = (if (gsX Z (s 3037) y x X) < 0 then 1 else 0)) → (True) → tt Zi d 150 (159, [some (.inr (.inl 30)), some (.inl y), some (.inl x), some (.inl r62), some (.inl r65), some (.inl r68), o_6], [.inl j72, .inr (.inl 30)], n, D, s21, p, c0) Q := by
            intro j72 b75 b76 hj74
            refine tt_ptb (x := j72) rfl rfl rfl rfl rfl (by omega) ?_
            show tt Zi d 150 (162, [some (.inr (.inl 30)), some (.inl y), some (.inl x), some (.inl r62), some (.inl r65), some (.inl r68), o_6], [], n, D, (us s21 3046 j72), p, c0) _
            refine tt_k 14 (S' := (181, [some (.inr (.inl 30)), some (.inl y), some (.inl x), some (.inl r62), some (.inl r65), some (.inl r68), some (.inl ((((81 * r62) + (9 * r65)) + r68)))], [.inr (.inl 30), .inl y, .inl x, .inr (.inl 30)], n, D, (us s21 3046 j72), p, c0)) rfl ?_
            refine tt_k 1 (S' := (184, [some (.inr (.inl 30)), some (.inl y), some (.inl x), some (.inl r62), some (.inl r65), some (.inl r68), some (.inl ((((81 * r62) + (9 * r65)) + r68)))], [.inl j72, .inl y, .inl x, .inr (.inl 30)], n, D, (us s21 3046 j72), p, c0)) rfl ?_
            have K78 : ∀ (j77 : Int) , (-364 ≤ j77 ∧ j77 ≤ 364) → (j77 = fA (gsX Z (s 3037) y x X)) → (0 ≤ j77 ∧ j77 ≤ 364) → (True) → tt Zi d 150 (195, [some (.inr (.inl 30)), some (.inl y), some (.inl x), some (.inl r62), some (.inl r65), some (.inl r68), some (.inl ((((81 * r62) + (9 * r65)) + r68)))], [.inl j77, .inl y, .inl x, .inr (.inl 30)], n, D, (us s21 3046 j72), p, c0) Q := by
              intro j77 b80 b81 b82 hj79
              have hgn : (gsX Z (s 3037) y x X) ≠ 0 := by omega
              have hVx : c0 31 (s21 3039 + 64 * y + x).toNat = (S y x) := by rw [vB_, eB, e31]; exact hq2 y (by omega) (by omega) x (by omega) (by omega)
              have hSx := hSy x (by omega) (by omega)
              have b83 : 0 ≤ (s21 3047) ∧ (s21 3047) ≤ 255 := hS21 3047
              have b84 : 0 ≤ (s21 3048) ∧ (s21 3048) ≤ 8 := hS21 3048
              refine tt_cl (by omega) rfl (x_reg (Zi := Zi) (D := D) (s := (us s21 3046 j72)) (p := p) (c := c0) (by omega) (bS_us hS21 (show 0 ≤ j72 ∧ j72 ≤ 1 by omega)) hC0 (64 * y + x) Z X.1 X.2.1 x y j77 (by omega) (by omega) (by omega) (mv_us (by decide) hc28) (show (s21 3036) = 1 ∧ (s21 3050) = 0 ∧ x < (s21 3037) by omega) (show (0 ≤ (s21 3041) ∧ (s21 3041) ≤ (s21 3017)) ∧ (0 ≤ (s21 3042) ∧ (s21 3042) ≤ (s21 3017)) ∧ (0 ≤ (s21 3043) ∧ (s21 3043) ≤ (s21 3017)) by omega) (pl_eq (s := s21) rfl rfl rfl rfl rfl hpl5) (show 0 ≤ (64 * y + x) ∧ (64 * y + x) ≤ 4095 by omega) hWO5 (show (s21 3016) + 100 ≤ 65535 by omega) (show c0 31 (s21 3039 + 64 * y + x).toNat ≤ s21 3017 by omega) hx52 hx51 hmr) ?_
              rintro _ _ ⟨s85, c86, rfl, rfl, hS85, hC86, f87, g88, k89, k90, k91, k92, k93⟩
              have hc94 : mv s85 := mv_fr f87 (by decide) (mv_us (by decide) hc28)
              show tt Zi d 150 (198, [some (.inr (.inl 30)), some (.inl y), some (.inl x), some (.inl r62), some (.inl r65), some (.inl r68), some (.inl ((((81 * r62) + (9 * r65)) + r68)))], [], n, D, s85, p, c86) _
              replace k89 : w_ok ((s85 3047)) ((s85 3048)) := k89
              replace k90 : (s21 3016) ≤ (s85 3016) ∧ (s85 3016) ≤ (s21 3016) + 96 := k90
              replace k91 : wrl (wNum X.1 (fM (eR Z (gR Z ((s21 3041)) ((s21 3042)) ((s21 3043)) (j72) j77.toNat X.2.1) (j72) ((c0 31) ((s21 3039) + 64 * y + x).toNat)) (oR Z j77.toNat X.2.1)) (ke (X.2.1 36 j77.toNat) (X.2.1 39 j77.toNat)) (Z 3026 - Z 3025 - 1) (Z 3025)) ((s85 3016)) ((s85 3047)) ((s85 3048)) ((c86 35)) := k91
              replace k92 : mrl (mLrn Z X.2.1 j77.toNat (eR Z (gR Z ((s21 3041)) ((s21 3042)) ((s21 3043)) (j72) j77.toNat X.2.1) (j72) ((c0 31) ((s21 3039) + 64 * y + x).toNat))) ((c86 36)) ((c86 37)) ((c86 38)) ((c86 39)) := k92
              replace k93 : (c86 44) = ua ((c0 44)) ((s21 3039) + 64 * y + x).toNat (rR Z (gR Z ((s21 3041)) ((s21 3042)) ((s21 3043)) (j72) j77.toNat X.2.1) (j72) (eR Z (gR Z ((s21 3041)) ((s21 3042)) ((s21 3043)) (j72) j77.toNat X.2.1) (j72) ((c0 31) ((s21 3039) + 64 * y + x).toNat))) := k93
              have b95 : 0 ≤ (s85 3047) ∧ (s85 3047) ≤ 255 := hS85 3047
              have b96 : 0 ≤ (s85 3048) ∧ (s85 3048) ≤ 8 := hS85 3048
              have b97 : 0 ≤ (s85 3016) ∧ (s85 3016) ≤ 65536 := hS85 3016
              have e98 : s85 3050 = (s21 3050) := (f87 3050 (by decide))
              have b99 : 0 ≤ (s85 3050) ∧ (s85 3050) ≤ 8 := hS85 3050
              have e100 : s85 3036 = (s21 3036) := (f87 3036 (by decide))
              have b101 : 0 ≤ (s85 3036) ∧ (s85 3036) ≤ 1 := hS85 3036
              have e102 : s85 3037 = (s21 3037) := (f87 3037 (by decide))
              have b103 : 0 ≤ (s85 3037) ∧ (s85 3037) ≤ 64 := hS85 3037
              have e104 : s85 3038 = (s21 3038) := (f87 3038 (by decide))
              have b105 : 0 ≤ (s85 3038) ∧ (s85 3038) ≤ 64 := hS85 3038
              have e106 : s85 3017 = (s21 3017) := (f87 3017 (by decide))
              have b107 : 0 ≤ (s85 3017) ∧ (s85 3017) ≤ 65535 := hS85 3017
              have e108 : s85 3039 = (s21 3039) := (f87 3039 (by decide))
              have b109 : 0 ≤ (s85 3039) ∧ (s85 3039) ≤ 8192 := hS85 3039
              have e110 : s85 3035 = (s21 3035) := (f87 3035 (by decide))
              have b111 : 0 ≤ (s85 3035) ∧ (s85 3035) ≤ 31 := hS85 3035
              have hx112 : zq Z (s85 3017) (s85 3018) (s85 3019) (s85 3020) (s85 3021) (s85 3022) (s85 3023) (s85 3024) (s85 3025) (s85 3026) := by rw [f87 3017 (by decide), f87 3018 (by decide), f87 3019 (by decide), f87 3020 (by decide), f87 3021 (by decide), f87 3022 (by decide), f87 3023 (by decide), f87 3024 (by decide), f87 3025 (by decide), f87 3026 (by decide)]; exact hx52
              have uw := k91
              rw [la, lb, lc, b81, b76, hVx] at uw
              have um := k92
              rw [la, lb, lc, b81, b76, hVx] at um
              have ur := k93
              rw [la, lb, lc, b81, b76, hVx] at ur
              refine tt_k 2 (S' := (23, [some (.inr (.inl 30)), some (.inl y), some (.inl (x + 1)), some (.inl r62), some (.inl r65), some (.inl r68), some (.inl ((((81 * r62) + (9 * r65)) + r68)))], [], n, D, s85, p, c86)) rfl ?_
              obtain ⟨hI2, hn2⟩ := plI_s hq1 hI (by omega) (by omega) (by omega) (by omega) hSy
              have hst : stX Z (s 3037) (S y) y x X = xReg Z (S y x) (nA X.2.2.2 x y) (nB X.2.2.2 x y) (nC X.2.2.2 x y) (if (gsX Z (s 3037) y x X) < 0 then 1 else 0) (fA (gsX Z (s 3037) y x X)).toNat (64 * y + x).toNat X := by unfold stX; rw [if_neg hgn]
              have hn1 : stN Z (s 3037) (S y) y x X = 1 := by unfold stN; rw [if_neg hgn]
              rw [hn1, hst] at hI2
              have hup : s85 3035 = X.2.2.1 := by omega
              have ht2 := tr_st (v := rR Z (gR Z (nA X.2.2.2 x y) (nB X.2.2.2 x y) (nC X.2.2.2 x y) (if (gsX Z (s 3037) y x X) < 0 then 1 else 0) (fA (gsX Z (s 3037) y x X)).toNat X.2.1) (if (gsX Z (s 3037) y x X) < 0 then 1 else 0) (eR Z (gR Z (nA X.2.2.2 x y) (nB X.2.2.2 x y) (nC X.2.2.2 x y) (if (gsX Z (s 3037) y x X) < 0 then 1 else 0) (fA (gsX Z (s 3037) y x X)).toNat X.2.1) (if (gsX Z (s 3037) y x X) < 0 then 1 else 0) (S y x))) htr (by omega) (by omega) (by omega) (by omega)
              rw [vB_, eB] at ur
              rw [← ur] at ht2
              exact ih (x + 1) (some (.inl r62)) (some (.inl r65)) (some (.inl r68)) (some (.inl ((((81 * r62) + (9 * r65)) + r68)))) s85 c86 (by omega) hS85 (fr_tr (fr_us (by decide) (fr_tr hF0 f22 (by decide))) f87 (by decide)) hC86 (frc_tr hG0 g88 (by decide)) ⟨_, hI2, uw, um, hup, ht2⟩ (show (x + 1) ≤ s 3037 by omega) (show (s 3037 - (x + 1)).toNat < m by omega)
            refine tz_eq (x := j72) rfl rfl (by omega) (fun h113 => ?_) (fun h113 => ?_)
            · show tt Zi d 150 (193, [some (.inr (.inl 30)), some (.inl y), some (.inl x), some (.inl r62), some (.inl r65), some (.inl r68), some (.inl ((((81 * r62) + (9 * r65)) + r68)))], [.inl y, .inl x, .inr (.inl 30)], n, D, (us s21 3046 j72), p, c0) _
              refine tt_k 1 (S' := (195, [some (.inr (.inl 30)), some (.inl y), some (.inl x), some (.inl r62), some (.inl r65), some (.inl r68), some (.inl ((((81 * r62) + (9 * r65)) + r68)))], [.inl ((((81 * r62) + (9 * r65)) + r68)), .inl y, .inl x, .inr (.inl 30)], n, D, (us s21 3046 j72), p, c0)) rfl ?_
              exact K78 ((((81 * r62) + (9 * r65)) + r68))  (by omega) (by have hjt := b76; unfold fA; (repeat' split at hjt) <;> (repeat' split) <;> omega) (by omega) (trivial)
            · show tt Zi d 150 (187, [some (.inr (.inl 30)), some (.inl y), some (.inl x), some (.inl r62), some (.inl r65), some (.inl r68), some (.inl ((((81 * r62) + (9 * r65)) + r68)))], [.inl y, .inl x, .inr (.inl 30)], n, D, (us s21 3046 j72), p, c0) _
              refine tt_k 3 (S' := (195, [some (.inr (.inl 30)), some (.inl y), some (.inl x), some (.inl r62), some (.inl r65), some (.inl r68), some (.inl ((((81 * r62) + (9 * r65)) + r68)))], [.inl ((-(((81 * r62) + (9 * r65)) + r68))), .inl y, .inl x, .inr (.inl 30)], n, D, (us s21 3046 j72), p, c0)) rfl ?_
              exact K78 ((-(((81 * r62) + (9 * r65)) + r68)))  (by omega) (by have hjt := b76; unfold fA; (repeat' split at hjt) <;> (repeat' split) <;> omega) (by omega) (trivial)
          refine tz_lt (x := r62) rfl rfl (by omega) (fun h114 => ?_) (fun h114 => ?_)
          · show tt Zi d 150 (154, [some (.inr (.inl 30)), some (.inl y), some (.inl x), some (.inl r62), some (.inl r65), some (.inl r68), o_6], [.inr (.inl 30)], n, D, s21, p, c0) _
            refine tt_k 2 (S' := (159, [some (.inr (.inl 30)), some (.inl y), some (.inl x), some (.inl r62), some (.inl r65), some (.inl r68), o_6], [.inl 1, .inr (.inl 30)], n, D, s21, p, c0)) rfl ?_
            exact K73 1  (by omega) (by first | (exfalso; omega) | rw [if_pos (by omega)] | rw [if_neg (by omega)]) (trivial)
          · show tt Zi d 150 (135, [some (.inr (.inl 30)), some (.inl y), some (.inl x), some (.inl r62), some (.inl r65), some (.inl r68), o_6], [.inr (.inl 30)], n, D, s21, p, c0) _
            refine tt_k 1 (S' := (136, [some (.inr (.inl 30)), some (.inl y), some (.inl x), some (.inl r62), some (.inl r65), some (.inl r68), o_6], [.inl r62, .inr (.inl 30)], n, D, s21, p, c0)) rfl ?_
            refine tz_ne (x := r62) rfl rfl (by omega) (fun h115 => ?_) (fun h115 => ?_)
            · show tt Zi d 150 (158, [some (.inr (.inl 30)), some (.inl y), some (.inl x), some (.inl r62), some (.inl r65), some (.inl r68), o_6], [.inr (.inl 30)], n, D, s21, p, c0) _
              refine tt_k 1 (S' := (159, [some (.inr (.inl 30)), some (.inl y), some (.inl x), some (.inl r62), some (.inl r65), some (.inl r68), o_6], [.inl 0, .inr (.inl 30)], n, D, s21, p, c0)) rfl ?_
              exact K73 0  (by omega) (by first | (exfalso; omega) | rw [if_pos (by omega)] | rw [if_neg (by omega)]) (trivial)
            · show tt Zi d 150 (139, [some (.inr (.inl 30)), some (.inl y), some (.inl x), some (.inl r62), some (.inl r65), some (.inl r68), o_6], [.inr (.inl 30)], n, D, s21, p, c0) _
              refine tt_k 1 (S' := (141, [some (.inr (.inl 30)), some (.inl y), some (.inl x), some (.inl r62), some (.inl r65), some (.inl r68), o_6], [.inl r65, .inr (.inl 30)], n, D, s21, p, c0)) rfl ?_
              refine tz_lt (x := r65) rfl rfl (by omega) (fun h116 => ?_) (fun h116 => ?_)
              · show tt Zi d 150 (154, [some (.inr (.inl 30)), some (.inl y), some (.inl x), some (.inl r62), some (.inl r65), some (.inl r68), o_6], [.inr (.inl 30)], n, D, s21, p, c0) _
                refine tt_k 2 (S' := (159, [some (.inr (.inl 30)), some (.inl y), some (.inl x), some (.inl r62), some (.inl r65), some (.inl r68), o_6], [.inl 1, .inr (.inl 30)], n, D, s21, p, c0)) rfl ?_
                exact K73 1  (by omega) (by first | (exfalso; omega) | rw [if_pos (by omega)] | rw [if_neg (by omega)]) (trivial)
              · show tt Zi d 150 (144, [some (.inr (.inl 30)), some (.inl y), some (.inl x), some (.inl r62), some (.inl r65), some (.inl r68), o_6], [.inr (.inl 30)], n, D, s21, p, c0) _
                refine tt_k 1 (S' := (146, [some (.inr (.inl 30)), some (.inl y), some (.inl x), some (.inl r62), some (.inl r65), some (.inl r68), o_6], [.inl r65, .inr (.inl 30)], n, D, s21, p, c0)) rfl ?_
                refine tz_ne (x := r65) rfl rfl (by omega) (fun h117 => ?_) (fun h117 => ?_)
                · show tt Zi d 150 (158, [some (.inr (.inl 30)), some (.inl y), some (.inl x), some (.inl r62), some (.inl r65), some (.inl r68), o_6], [.inr (.inl 30)], n, D, s21, p, c0) _
                  refine tt_k 1 (S' := (159, [some (.inr (.inl 30)), some (.inl y), some (.inl x), some (.inl r62), some (.inl r65), some (.inl r68), o_6], [.inl 0, .inr (.inl 30)], n, D, s21, p, c0)) rfl ?_
                  exact K73 0  (by omega) (by first | (exfalso; omega) | rw [if_pos (by omega)] | rw [if_neg (by omega)]) (trivial)
                · show tt Zi d 150 (149, [some (.inr (.inl 30)), some (.inl y), some (.inl x), some (.inl r62), some (.inl r65), some (.inl r68), o_6], [.inr (.inl 30)], n, D, s21, p, c0) _
                  refine tt_k 1 (S' := (151, [some (.inr (.inl 30)), some (.inl y), some (.inl x), some (.inl r62), some (.inl r65), some (.inl r68), o_6], [.inl r68, .inr (.inl 30)], n, D, s21, p, c0)) rfl ?_
                  refine tz_ge (x := r68) rfl rfl (by omega) (fun h118 => ?_) (fun h118 => ?_)
                  · show tt Zi d 150 (158, [some (.inr (.inl 30)), some (.inl y), some (.inl x), some (.inl r62), some (.inl r65), some (.inl r68), o_6], [.inr (.inl 30)], n, D, s21, p, c0) _
                    refine tt_k 1 (S' := (159, [some (.inr (.inl 30)), some (.inl y), some (.inl x), some (.inl r62), some (.inl r65), some (.inl r68), o_6], [.inl 0, .inr (.inl 30)], n, D, s21, p, c0)) rfl ?_
                    exact K73 0  (by omega) (by first | (exfalso; omega) | rw [if_pos (by omega)] | rw [if_neg (by omega)]) (trivial)
                  · show tt Zi d 150 (154, [some (.inr (.inl 30)), some (.inl y), some (.inl x), some (.inl r62), some (.inl r65), some (.inl r68), o_6], [.inr (.inl 30)], n, D, s21, p, c0) _
                    refine tt_k 2 (S' := (159, [some (.inr (.inl 30)), some (.inl y), some (.inl x), some (.inl r62), some (.inl r65), some (.inl r68), o_6], [.inl 1, .inr (.inl 30)], n, D, s21, p, c0)) rfl ?_
                    exact K73 1  (by omega) (by first | (exfalso; omega) | rw [if_pos (by omega)] | rw [if_neg (by omega)]) (trivial)
        · show tt Zi d 150 (92, [some (.inr (.inl 30)), some (.inl y), some (.inl x), some (.inl r62), some (.inl r65), some (.inl r68), o_6], [], n, D, s21, p, c0) _
          refine tt_k 1 (S' := (94, [some (.inr (.inl 30)), some (.inl y), some (.inl x), some (.inl r62), some (.inl r65), some (.inl r68), o_6], [.inl r65], n, D, s21, p, c0)) rfl ?_
          refine tz_ne (x := r65) rfl rfl (by omega) (fun h119 => ?_) (fun h119 => ?_)
          · show tt Zi d 150 (130, [some (.inr (.inl 30)), some (.inl y), some (.inl x), some (.inl r62), some (.inl r65), some (.inl r68), o_6], [], n, D, s21, p, c0) _
            refine tt_k 2 (S' := (132, [some (.inr (.inl 30)), some (.inl y), some (.inl x), some (.inl r62), some (.inl r65), some (.inl r68), o_6], [.inl r62, .inr (.inl 30)], n, D, s21, p, c0)) rfl ?_
            have K121 : ∀ (j120 : Int) , (0 ≤ j120 ∧ j120 ≤ 1) → (j120 = (if (gsX Z (s 3037) y x X) < 0 then 1 else 0)) → (True) → tt Zi d 150 (159, [some (.inr (.inl 30)), some (.inl y), some (.inl x), some (.inl r62), some (.inl r65), some (.inl r68), o_6], [.inl j120, .inr (.inl 30)], n, D, s21, p, c0) Q := by
              intro j120 b123 b124 hj122
              refine tt_ptb (x := j120) rfl rfl rfl rfl rfl (by omega) ?_
              show tt Zi d 150 (162, [some (.inr (.inl 30)), some (.inl y), some (.inl x), some (.inl r62), some (.inl r65), some (.inl r68), o_6], [], n, D, (us s21 3046 j120), p, c0) _
              refine tt_k 14 (S' := (181, [some (.inr (.inl 30)), some (.inl y), some (.inl x), some (.inl r62), some (.inl r65), some (.inl r68), some (.inl ((((81 * r62) + (9 * r65)) + r68)))], [.inr (.inl 30), .inl y, .inl x, .inr (.inl 30)], n, D, (us s21 3046 j120), p, c0)) rfl ?_
              refine tt_k 1 (S' := (184, [some (.inr (.inl 30)), some (.inl y), some (.inl x), some (.inl r62), some (.inl r65), some (.inl r68), some (.inl ((((81 * r62) + (9 * r65)) + r68)))], [.inl j120, .inl y, .inl x, .inr (.inl 30)], n, D, (us s21 3046 j120), p, c0)) rfl ?_
              have K126 : ∀ (j125 : Int) , (-40 ≤ j125 ∧ j125 ≤ 40) → (j125 = fA (gsX Z (s 3037) y x X)) → (0 ≤ j125 ∧ j125 ≤ 364) → (True) → tt Zi d 150 (195, [some (.inr (.inl 30)), some (.inl y), some (.inl x), some (.inl r62), some (.inl r65), some (.inl r68), some (.inl ((((81 * r62) + (9 * r65)) + r68)))], [.inl j125, .inl y, .inl x, .inr (.inl 30)], n, D, (us s21 3046 j120), p, c0) Q := by
                intro j125 b128 b129 b130 hj127
                have hgn : (gsX Z (s 3037) y x X) ≠ 0 := by omega
                have hVx : c0 31 (s21 3039 + 64 * y + x).toNat = (S y x) := by rw [vB_, eB, e31]; exact hq2 y (by omega) (by omega) x (by omega) (by omega)
                have hSx := hSy x (by omega) (by omega)
                have b131 : 0 ≤ (s21 3047) ∧ (s21 3047) ≤ 255 := hS21 3047
                have b132 : 0 ≤ (s21 3048) ∧ (s21 3048) ≤ 8 := hS21 3048
                refine tt_cl (by omega) rfl (x_reg (Zi := Zi) (D := D) (s := (us s21 3046 j120)) (p := p) (c := c0) (by omega) (bS_us hS21 (show 0 ≤ j120 ∧ j120 ≤ 1 by omega)) hC0 (64 * y + x) Z X.1 X.2.1 x y j125 (by omega) (by omega) (by omega) (mv_us (by decide) hc28) (show (s21 3036) = 1 ∧ (s21 3050) = 0 ∧ x < (s21 3037) by omega) (show (0 ≤ (s21 3041) ∧ (s21 3041) ≤ (s21 3017)) ∧ (0 ≤ (s21 3042) ∧ (s21 3042) ≤ (s21 3017)) ∧ (0 ≤ (s21 3043) ∧ (s21 3043) ≤ (s21 3017)) by omega) (pl_eq (s := s21) rfl rfl rfl rfl rfl hpl5) (show 0 ≤ (64 * y + x) ∧ (64 * y + x) ≤ 4095 by omega) hWO5 (show (s21 3016) + 100 ≤ 65535 by omega) (show c0 31 (s21 3039 + 64 * y + x).toNat ≤ s21 3017 by omega) hx52 hx51 hmr) ?_
                rintro _ _ ⟨s133, c134, rfl, rfl, hS133, hC134, f135, g136, k137, k138, k139, k140, k141⟩
                have hc142 : mv s133 := mv_fr f135 (by decide) (mv_us (by decide) hc28)
                show tt Zi d 150 (198, [some (.inr (.inl 30)), some (.inl y), some (.inl x), some (.inl r62), some (.inl r65), some (.inl r68), some (.inl ((((81 * r62) + (9 * r65)) + r68)))], [], n, D, s133, p, c134) _
                replace k137 : w_ok ((s133 3047)) ((s133 3048)) := k137
                replace k138 : (s21 3016) ≤ (s133 3016) ∧ (s133 3016) ≤ (s21 3016) + 96 := k138
                replace k139 : wrl (wNum X.1 (fM (eR Z (gR Z ((s21 3041)) ((s21 3042)) ((s21 3043)) (j120) j125.toNat X.2.1) (j120) ((c0 31) ((s21 3039) + 64 * y + x).toNat)) (oR Z j125.toNat X.2.1)) (ke (X.2.1 36 j125.toNat) (X.2.1 39 j125.toNat)) (Z 3026 - Z 3025 - 1) (Z 3025)) ((s133 3016)) ((s133 3047)) ((s133 3048)) ((c134 35)) := k139
                replace k140 : mrl (mLrn Z X.2.1 j125.toNat (eR Z (gR Z ((s21 3041)) ((s21 3042)) ((s21 3043)) (j120) j125.toNat X.2.1) (j120) ((c0 31) ((s21 3039) + 64 * y + x).toNat))) ((c134 36)) ((c134 37)) ((c134 38)) ((c134 39)) := k140
                replace k141 : (c134 44) = ua ((c0 44)) ((s21 3039) + 64 * y + x).toNat (rR Z (gR Z ((s21 3041)) ((s21 3042)) ((s21 3043)) (j120) j125.toNat X.2.1) (j120) (eR Z (gR Z ((s21 3041)) ((s21 3042)) ((s21 3043)) (j120) j125.toNat X.2.1) (j120) ((c0 31) ((s21 3039) + 64 * y + x).toNat))) := k141
                have b143 : 0 ≤ (s133 3047) ∧ (s133 3047) ≤ 255 := hS133 3047
                have b144 : 0 ≤ (s133 3048) ∧ (s133 3048) ≤ 8 := hS133 3048
                have b145 : 0 ≤ (s133 3016) ∧ (s133 3016) ≤ 65536 := hS133 3016
                have e146 : s133 3050 = (s21 3050) := (f135 3050 (by decide))
                have b147 : 0 ≤ (s133 3050) ∧ (s133 3050) ≤ 8 := hS133 3050
                have e148 : s133 3036 = (s21 3036) := (f135 3036 (by decide))
                have b149 : 0 ≤ (s133 3036) ∧ (s133 3036) ≤ 1 := hS133 3036
                have e150 : s133 3037 = (s21 3037) := (f135 3037 (by decide))
                have b151 : 0 ≤ (s133 3037) ∧ (s133 3037) ≤ 64 := hS133 3037
                have e152 : s133 3038 = (s21 3038) := (f135 3038 (by decide))
                have b153 : 0 ≤ (s133 3038) ∧ (s133 3038) ≤ 64 := hS133 3038
                have e154 : s133 3017 = (s21 3017) := (f135 3017 (by decide))
                have b155 : 0 ≤ (s133 3017) ∧ (s133 3017) ≤ 65535 := hS133 3017
                have e156 : s133 3039 = (s21 3039) := (f135 3039 (by decide))
                have b157 : 0 ≤ (s133 3039) ∧ (s133 3039) ≤ 8192 := hS133 3039
                have e158 : s133 3035 = (s21 3035) := (f135 3035 (by decide))
                have b159 : 0 ≤ (s133 3035) ∧ (s133 3035) ≤ 31 := hS133 3035
                have hx160 : zq Z (s133 3017) (s133 3018) (s133 3019) (s133 3020) (s133 3021) (s133 3022) (s133 3023) (s133 3024) (s133 3025) (s133 3026) := by rw [f135 3017 (by decide), f135 3018 (by decide), f135 3019 (by decide), f135 3020 (by decide), f135 3021 (by decide), f135 3022 (by decide), f135 3023 (by decide), f135 3024 (by decide), f135 3025 (by decide), f135 3026 (by decide)]; exact hx52
                have uw := k139
                rw [la, lb, lc, b129, b124, hVx] at uw
                have um := k140
                rw [la, lb, lc, b129, b124, hVx] at um
                have ur := k141
                rw [la, lb, lc, b129, b124, hVx] at ur
                refine tt_k 2 (S' := (23, [some (.inr (.inl 30)), some (.inl y), some (.inl (x + 1)), some (.inl r62), some (.inl r65), some (.inl r68), some (.inl ((((81 * r62) + (9 * r65)) + r68)))], [], n, D, s133, p, c134)) rfl ?_
                obtain ⟨hI2, hn2⟩ := plI_s hq1 hI (by omega) (by omega) (by omega) (by omega) hSy
                have hst : stX Z (s 3037) (S y) y x X = xReg Z (S y x) (nA X.2.2.2 x y) (nB X.2.2.2 x y) (nC X.2.2.2 x y) (if (gsX Z (s 3037) y x X) < 0 then 1 else 0) (fA (gsX Z (s 3037) y x X)).toNat (64 * y + x).toNat X := by unfold stX; rw [if_neg hgn]
                have hn1 : stN Z (s 3037) (S y) y x X = 1 := by unfold stN; rw [if_neg hgn]
                rw [hn1, hst] at hI2
                have hup : s133 3035 = X.2.2.1 := by omega
                have ht2 := tr_st (v := rR Z (gR Z (nA X.2.2.2 x y) (nB X.2.2.2 x y) (nC X.2.2.2 x y) (if (gsX Z (s 3037) y x X) < 0 then 1 else 0) (fA (gsX Z (s 3037) y x X)).toNat X.2.1) (if (gsX Z (s 3037) y x X) < 0 then 1 else 0) (eR Z (gR Z (nA X.2.2.2 x y) (nB X.2.2.2 x y) (nC X.2.2.2 x y) (if (gsX Z (s 3037) y x X) < 0 then 1 else 0) (fA (gsX Z (s 3037) y x X)).toNat X.2.1) (if (gsX Z (s 3037) y x X) < 0 then 1 else 0) (S y x))) htr (by omega) (by omega) (by omega) (by omega)
                rw [vB_, eB] at ur
                rw [← ur] at ht2
                exact ih (x + 1) (some (.inl r62)) (some (.inl r65)) (some (.inl r68)) (some (.inl ((((81 * r62) + (9 * r65)) + r68)))) s133 c134 (by omega) hS133 (fr_tr (fr_us (by decide) (fr_tr hF0 f22 (by decide))) f135 (by decide)) hC134 (frc_tr hG0 g136 (by decide)) ⟨_, hI2, uw, um, hup, ht2⟩ (show (x + 1) ≤ s 3037 by omega) (show (s 3037 - (x + 1)).toNat < m by omega)
              refine tz_eq (x := j120) rfl rfl (by omega) (fun h161 => ?_) (fun h161 => ?_)
              · show tt Zi d 150 (193, [some (.inr (.inl 30)), some (.inl y), some (.inl x), some (.inl r62), some (.inl r65), some (.inl r68), some (.inl ((((81 * r62) + (9 * r65)) + r68)))], [.inl y, .inl x, .inr (.inl 30)], n, D, (us s21 3046 j120), p, c0) _
                refine tt_k 1 (S' := (195, [some (.inr (.inl 30)), some (.inl y), some (.inl x), some (.inl r62), some (.inl r65), some (.inl r68), some (.inl ((((81 * r62) + (9 * r65)) + r68)))], [.inl ((((81 * r62) + (9 * r65)) + r68)), .inl y, .inl x, .inr (.inl 30)], n, D, (us s21 3046 j120), p, c0)) rfl ?_
                exact K126 ((((81 * r62) + (9 * r65)) + r68))  (by omega) (by have hjt := b124; unfold fA; (repeat' split at hjt) <;> (repeat' split) <;> omega) (by omega) (trivial)
              · show tt Zi d 150 (187, [some (.inr (.inl 30)), some (.inl y), some (.inl x), some (.inl r62), some (.inl r65), some (.inl r68), some (.inl ((((81 * r62) + (9 * r65)) + r68)))], [.inl y, .inl x, .inr (.inl 30)], n, D, (us s21 3046 j120), p, c0) _
                refine tt_k 3 (S' := (195, [some (.inr (.inl 30)), some (.inl y), some (.inl x), some (.inl r62), some (.inl r65), some (.inl r68), some (.inl ((((81 * r62) + (9 * r65)) + r68)))], [.inl ((-(((81 * r62) + (9 * r65)) + r68))), .inl y, .inl x, .inr (.inl 30)], n, D, (us s21 3046 j120), p, c0)) rfl ?_
                exact K126 ((-(((81 * r62) + (9 * r65)) + r68)))  (by omega) (by have hjt := b124; unfold fA; (repeat' split at hjt) <;> (repeat' split) <;> omega) (by omega) (trivial)
            refine tz_lt (x := r62) rfl rfl (by omega) (fun h162 => ?_) (fun h162 => ?_)
            · exfalso; omega
            · show tt Zi d 150 (135, [some (.inr (.inl 30)), some (.inl y), some (.inl x), some (.inl r62), some (.inl r65), some (.inl r68), o_6], [.inr (.inl 30)], n, D, s21, p, c0) _
              refine tt_k 1 (S' := (136, [some (.inr (.inl 30)), some (.inl y), some (.inl x), some (.inl r62), some (.inl r65), some (.inl r68), o_6], [.inl r62, .inr (.inl 30)], n, D, s21, p, c0)) rfl ?_
              refine tz_ne (x := r62) rfl rfl (by omega) (fun h163 => ?_) (fun h163 => ?_)
              · exfalso; omega
              · show tt Zi d 150 (139, [some (.inr (.inl 30)), some (.inl y), some (.inl x), some (.inl r62), some (.inl r65), some (.inl r68), o_6], [.inr (.inl 30)], n, D, s21, p, c0) _
                refine tt_k 1 (S' := (141, [some (.inr (.inl 30)), some (.inl y), some (.inl x), some (.inl r62), some (.inl r65), some (.inl r68), o_6], [.inl r65, .inr (.inl 30)], n, D, s21, p, c0)) rfl ?_
                refine tz_lt (x := r65) rfl rfl (by omega) (fun h164 => ?_) (fun h164 => ?_)
                · show tt Zi d 150 (154, [some (.inr (.inl 30)), some (.inl y), some (.inl x), some (.inl r62), some (.inl r65), some (.inl r68), o_6], [.inr (.inl 30)], n, D, s21, p, c0) _
                  refine tt_k 2 (S' := (159, [some (.inr (.inl 30)), some (.inl y), some (.inl x), some (.inl r62), some (.inl r65), some (.inl r68), o_6], [.inl 1, .inr (.inl 30)], n, D, s21, p, c0)) rfl ?_
                  exact K121 1  (by omega) (by first | (exfalso; omega) | rw [if_pos (by omega)] | rw [if_neg (by omega)]) (trivial)
                · show tt Zi d 150 (144, [some (.inr (.inl 30)), some (.inl y), some (.inl x), some (.inl r62), some (.inl r65), some (.inl r68), o_6], [.inr (.inl 30)], n, D, s21, p, c0) _
                  refine tt_k 1 (S' := (146, [some (.inr (.inl 30)), some (.inl y), some (.inl x), some (.inl r62), some (.inl r65), some (.inl r68), o_6], [.inl r65, .inr (.inl 30)], n, D, s21, p, c0)) rfl ?_
                  refine tz_ne (x := r65) rfl rfl (by omega) (fun h165 => ?_) (fun h165 => ?_)
                  · show tt Zi d 150 (158, [some (.inr (.inl 30)), some (.inl y), some (.inl x), some (.inl r62), some (.inl r65), some (.inl r68), o_6], [.inr (.inl 30)], n, D, s21, p, c0) _
                    refine tt_k 1 (S' := (159, [some (.inr (.inl 30)), some (.inl y), some (.inl x), some (.inl r62), some (.inl r65), some (.inl r68), o_6], [.inl 0, .inr (.inl 30)], n, D, s21, p, c0)) rfl ?_
                    exact K121 0  (by omega) (by first | (exfalso; omega) | rw [if_pos (by omega)] | rw [if_neg (by omega)]) (trivial)
                  · show tt Zi d 150 (149, [some (.inr (.inl 30)), some (.inl y), some (.inl x), some (.inl r62), some (.inl r65), some (.inl r68), o_6], [.inr (.inl 30)], n, D, s21, p, c0) _
                    refine tt_k 1 (S' := (151, [some (.inr (.inl 30)), some (.inl y), some (.inl x), some (.inl r62), some (.inl r65), some (.inl r68), o_6], [.inl r68, .inr (.inl 30)], n, D, s21, p, c0)) rfl ?_
                    refine tz_ge (x := r68) rfl rfl (by omega) (fun h166 => ?_) (fun h166 => ?_)
                    · show tt Zi d 150 (158, [some (.inr (.inl 30)), some (.inl y), some (.inl x), some (.inl r62), some (.inl r65), some (.inl r68), o_6], [.inr (.inl 30)], n, D, s21, p, c0) _
                      refine tt_k 1 (S' := (159, [some (.inr (.inl 30)), some (.inl y), some (.inl x), some (.inl r62), some (.inl r65), some (.inl r68), o_6], [.inl 0, .inr (.inl 30)], n, D, s21, p, c0)) rfl ?_
                      exact K121 0  (by omega) (by first | (exfalso; omega) | rw [if_pos (by omega)] | rw [if_neg (by omega)]) (trivial)
                    · show tt Zi d 150 (154, [some (.inr (.inl 30)), some (.inl y), some (.inl x), some (.inl r62), some (.inl r65), some (.inl r68), o_6], [.inr (.inl 30)], n, D, s21, p, c0) _
                      refine tt_k 2 (S' := (159, [some (.inr (.inl 30)), some (.inl y), some (.inl x), some (.inl r62), some (.inl r65), some (.inl r68), o_6], [.inl 1, .inr (.inl 30)], n, D, s21, p, c0)) rfl ?_
                      exact K121 1  (by omega) (by first | (exfalso; omega) | rw [if_pos (by omega)] | rw [if_neg (by omega)]) (trivial)
          · show tt Zi d 150 (97, [some (.inr (.inl 30)), some (.inl y), some (.inl x), some (.inl r62), some (.inl r65), some (.inl r68), o_6], [], n, D, s21, p, c0) _
            refine tt_k 1 (S' := (99, [some (.inr (.inl 30)), some (.inl y), some (.inl x), some (.inl r62), some (.inl r65), some (.inl r68), o_6], [.inl r68], n, D, s21, p, c0)) rfl ?_
            refine tz_ne (x := r68) rfl rfl (by omega) (fun h167 => ?_) (fun h167 => ?_)
            · show tt Zi d 150 (130, [some (.inr (.inl 30)), some (.inl y), some (.inl x), some (.inl r62), some (.inl r65), some (.inl r68), o_6], [], n, D, s21, p, c0) _
              refine tt_k 2 (S' := (132, [some (.inr (.inl 30)), some (.inl y), some (.inl x), some (.inl r62), some (.inl r65), some (.inl r68), o_6], [.inl r62, .inr (.inl 30)], n, D, s21, p, c0)) rfl ?_
              have K169 : ∀ (j168 : Int) , (0 ≤ j168 ∧ j168 ≤ 1) → (j168 = (if (gsX Z (s 3037) y x X) < 0 then 1 else 0)) → (True) → tt Zi d 150 (159, [some (.inr (.inl 30)), some (.inl y), some (.inl x), some (.inl r62), some (.inl r65), some (.inl r68), o_6], [.inl j168, .inr (.inl 30)], n, D, s21, p, c0) Q := by
                intro j168 b171 b172 hj170
                refine tt_ptb (x := j168) rfl rfl rfl rfl rfl (by omega) ?_
                show tt Zi d 150 (162, [some (.inr (.inl 30)), some (.inl y), some (.inl x), some (.inl r62), some (.inl r65), some (.inl r68), o_6], [], n, D, (us s21 3046 j168), p, c0) _
                refine tt_k 14 (S' := (181, [some (.inr (.inl 30)), some (.inl y), some (.inl x), some (.inl r62), some (.inl r65), some (.inl r68), some (.inl ((((81 * r62) + (9 * r65)) + r68)))], [.inr (.inl 30), .inl y, .inl x, .inr (.inl 30)], n, D, (us s21 3046 j168), p, c0)) rfl ?_
                refine tt_k 1 (S' := (184, [some (.inr (.inl 30)), some (.inl y), some (.inl x), some (.inl r62), some (.inl r65), some (.inl r68), some (.inl ((((81 * r62) + (9 * r65)) + r68)))], [.inl j168, .inl y, .inl x, .inr (.inl 30)], n, D, (us s21 3046 j168), p, c0)) rfl ?_
                have K174 : ∀ (j173 : Int) , (-4 ≤ j173 ∧ j173 ≤ 4) → (j173 = fA (gsX Z (s 3037) y x X)) → (0 ≤ j173 ∧ j173 ≤ 364) → (True) → tt Zi d 150 (195, [some (.inr (.inl 30)), some (.inl y), some (.inl x), some (.inl r62), some (.inl r65), some (.inl r68), some (.inl ((((81 * r62) + (9 * r65)) + r68)))], [.inl j173, .inl y, .inl x, .inr (.inl 30)], n, D, (us s21 3046 j168), p, c0) Q := by
                  intro j173 b176 b177 b178 hj175
                  have hgn : (gsX Z (s 3037) y x X) ≠ 0 := by omega
                  have hVx : c0 31 (s21 3039 + 64 * y + x).toNat = (S y x) := by rw [vB_, eB, e31]; exact hq2 y (by omega) (by omega) x (by omega) (by omega)
                  have hSx := hSy x (by omega) (by omega)
                  have b179 : 0 ≤ (s21 3047) ∧ (s21 3047) ≤ 255 := hS21 3047
                  have b180 : 0 ≤ (s21 3048) ∧ (s21 3048) ≤ 8 := hS21 3048
                  refine tt_cl (by omega) rfl (x_reg (Zi := Zi) (D := D) (s := (us s21 3046 j168)) (p := p) (c := c0) (by omega) (bS_us hS21 (show 0 ≤ j168 ∧ j168 ≤ 1 by omega)) hC0 (64 * y + x) Z X.1 X.2.1 x y j173 (by omega) (by omega) (by omega) (mv_us (by decide) hc28) (show (s21 3036) = 1 ∧ (s21 3050) = 0 ∧ x < (s21 3037) by omega) (show (0 ≤ (s21 3041) ∧ (s21 3041) ≤ (s21 3017)) ∧ (0 ≤ (s21 3042) ∧ (s21 3042) ≤ (s21 3017)) ∧ (0 ≤ (s21 3043) ∧ (s21 3043) ≤ (s21 3017)) by omega) (pl_eq (s := s21) rfl rfl rfl rfl rfl hpl5) (show 0 ≤ (64 * y + x) ∧ (64 * y + x) ≤ 4095 by omega) hWO5 (show (s21 3016) + 100 ≤ 65535 by omega) (show c0 31 (s21 3039 + 64 * y + x).toNat ≤ s21 3017 by omega) hx52 hx51 hmr) ?_
                  rintro _ _ ⟨s181, c182, rfl, rfl, hS181, hC182, f183, g184, k185, k186, k187, k188, k189⟩
                  have hc190 : mv s181 := mv_fr f183 (by decide) (mv_us (by decide) hc28)
                  show tt Zi d 150 (198, [some (.inr (.inl 30)), some (.inl y), some (.inl x), some (.inl r62), some (.inl r65), some (.inl r68), some (.inl ((((81 * r62) + (9 * r65)) + r68)))], [], n, D, s181, p, c182) _
                  replace k185 : w_ok ((s181 3047)) ((s181 3048)) := k185
                  replace k186 : (s21 3016) ≤ (s181 3016) ∧ (s181 3016) ≤ (s21 3016) + 96 := k186
                  replace k187 : wrl (wNum X.1 (fM (eR Z (gR Z ((s21 3041)) ((s21 3042)) ((s21 3043)) (j168) j173.toNat X.2.1) (j168) ((c0 31) ((s21 3039) + 64 * y + x).toNat)) (oR Z j173.toNat X.2.1)) (ke (X.2.1 36 j173.toNat) (X.2.1 39 j173.toNat)) (Z 3026 - Z 3025 - 1) (Z 3025)) ((s181 3016)) ((s181 3047)) ((s181 3048)) ((c182 35)) := k187
                  replace k188 : mrl (mLrn Z X.2.1 j173.toNat (eR Z (gR Z ((s21 3041)) ((s21 3042)) ((s21 3043)) (j168) j173.toNat X.2.1) (j168) ((c0 31) ((s21 3039) + 64 * y + x).toNat))) ((c182 36)) ((c182 37)) ((c182 38)) ((c182 39)) := k188
                  replace k189 : (c182 44) = ua ((c0 44)) ((s21 3039) + 64 * y + x).toNat (rR Z (gR Z ((s21 3041)) ((s21 3042)) ((s21 3043)) (j168) j173.toNat X.2.1) (j168) (eR Z (gR Z ((s21 3041)) ((s21 3042)) ((s21 3043)) (j168) j173.toNat X.2.1) (j168) ((c0 31) ((s21 3039) + 64 * y + x).toNat))) := k189
                  have b191 : 0 ≤ (s181 3047) ∧ (s181 3047) ≤ 255 := hS181 3047
                  have b192 : 0 ≤ (s181 3048) ∧ (s181 3048) ≤ 8 := hS181 3048
                  have b193 : 0 ≤ (s181 3016) ∧ (s181 3016) ≤ 65536 := hS181 3016
                  have e194 : s181 3050 = (s21 3050) := (f183 3050 (by decide))
                  have b195 : 0 ≤ (s181 3050) ∧ (s181 3050) ≤ 8 := hS181 3050
                  have e196 : s181 3036 = (s21 3036) := (f183 3036 (by decide))
                  have b197 : 0 ≤ (s181 3036) ∧ (s181 3036) ≤ 1 := hS181 3036
                  have e198 : s181 3037 = (s21 3037) := (f183 3037 (by decide))
                  have b199 : 0 ≤ (s181 3037) ∧ (s181 3037) ≤ 64 := hS181 3037
                  have e200 : s181 3038 = (s21 3038) := (f183 3038 (by decide))
                  have b201 : 0 ≤ (s181 3038) ∧ (s181 3038) ≤ 64 := hS181 3038
                  have e202 : s181 3017 = (s21 3017) := (f183 3017 (by decide))
                  have b203 : 0 ≤ (s181 3017) ∧ (s181 3017) ≤ 65535 := hS181 3017
                  have e204 : s181 3039 = (s21 3039) := (f183 3039 (by decide))
                  have b205 : 0 ≤ (s181 3039) ∧ (s181 3039) ≤ 8192 := hS181 3039
                  have e206 : s181 3035 = (s21 3035) := (f183 3035 (by decide))
                  have b207 : 0 ≤ (s181 3035) ∧ (s181 3035) ≤ 31 := hS181 3035
                  have hx208 : zq Z (s181 3017) (s181 3018) (s181 3019) (s181 3020) (s181 3021) (s181 3022) (s181 3023) (s181 3024) (s181 3025) (s181 3026) := by rw [f183 3017 (by decide), f183 3018 (by decide), f183 3019 (by decide), f183 3020 (by decide), f183 3021 (by decide), f183 3022 (by decide), f183 3023 (by decide), f183 3024 (by decide), f183 3025 (by decide), f183 3026 (by decide)]; exact hx52
                  have uw := k187
                  rw [la, lb, lc, b177, b172, hVx] at uw
                  have um := k188
                  rw [la, lb, lc, b177, b172, hVx] at um
                  have ur := k189
                  rw [la, lb, lc, b177, b172, hVx] at ur
                  refine tt_k 2 (S' := (23, [some (.inr (.inl 30)), some (.inl y), some (.inl (x + 1)), some (.inl r62), some (.inl r65), some (.inl r68), some (.inl ((((81 * r62) + (9 * r65)) + r68)))], [], n, D, s181, p, c182)) rfl ?_
                  obtain ⟨hI2, hn2⟩ := plI_s hq1 hI (by omega) (by omega) (by omega) (by omega) hSy
                  have hst : stX Z (s 3037) (S y) y x X = xReg Z (S y x) (nA X.2.2.2 x y) (nB X.2.2.2 x y) (nC X.2.2.2 x y) (if (gsX Z (s 3037) y x X) < 0 then 1 else 0) (fA (gsX Z (s 3037) y x X)).toNat (64 * y + x).toNat X := by unfold stX; rw [if_neg hgn]
                  have hn1 : stN Z (s 3037) (S y) y x X = 1 := by unfold stN; rw [if_neg hgn]
                  rw [hn1, hst] at hI2
                  have hup : s181 3035 = X.2.2.1 := by omega
                  have ht2 := tr_st (v := rR Z (gR Z (nA X.2.2.2 x y) (nB X.2.2.2 x y) (nC X.2.2.2 x y) (if (gsX Z (s 3037) y x X) < 0 then 1 else 0) (fA (gsX Z (s 3037) y x X)).toNat X.2.1) (if (gsX Z (s 3037) y x X) < 0 then 1 else 0) (eR Z (gR Z (nA X.2.2.2 x y) (nB X.2.2.2 x y) (nC X.2.2.2 x y) (if (gsX Z (s 3037) y x X) < 0 then 1 else 0) (fA (gsX Z (s 3037) y x X)).toNat X.2.1) (if (gsX Z (s 3037) y x X) < 0 then 1 else 0) (S y x))) htr (by omega) (by omega) (by omega) (by omega)
                  rw [vB_, eB] at ur
                  rw [← ur] at ht2
                  exact ih (x + 1) (some (.inl r62)) (some (.inl r65)) (some (.inl r68)) (some (.inl ((((81 * r62) + (9 * r65)) + r68)))) s181 c182 (by omega) hS181 (fr_tr (fr_us (by decide) (fr_tr hF0 f22 (by decide))) f183 (by decide)) hC182 (frc_tr hG0 g184 (by decide)) ⟨_, hI2, uw, um, hup, ht2⟩ (show (x + 1) ≤ s 3037 by omega) (show (s 3037 - (x + 1)).toNat < m by omega)
                refine tz_eq (x := j168) rfl rfl (by omega) (fun h209 => ?_) (fun h209 => ?_)
                · show tt Zi d 150 (193, [some (.inr (.inl 30)), some (.inl y), some (.inl x), some (.inl r62), some (.inl r65), some (.inl r68), some (.inl ((((81 * r62) + (9 * r65)) + r68)))], [.inl y, .inl x, .inr (.inl 30)], n, D, (us s21 3046 j168), p, c0) _
                  refine tt_k 1 (S' := (195, [some (.inr (.inl 30)), some (.inl y), some (.inl x), some (.inl r62), some (.inl r65), some (.inl r68), some (.inl ((((81 * r62) + (9 * r65)) + r68)))], [.inl ((((81 * r62) + (9 * r65)) + r68)), .inl y, .inl x, .inr (.inl 30)], n, D, (us s21 3046 j168), p, c0)) rfl ?_
                  exact K174 ((((81 * r62) + (9 * r65)) + r68))  (by omega) (by have hjt := b172; unfold fA; (repeat' split at hjt) <;> (repeat' split) <;> omega) (by omega) (trivial)
                · show tt Zi d 150 (187, [some (.inr (.inl 30)), some (.inl y), some (.inl x), some (.inl r62), some (.inl r65), some (.inl r68), some (.inl ((((81 * r62) + (9 * r65)) + r68)))], [.inl y, .inl x, .inr (.inl 30)], n, D, (us s21 3046 j168), p, c0) _
                  refine tt_k 3 (S' := (195, [some (.inr (.inl 30)), some (.inl y), some (.inl x), some (.inl r62), some (.inl r65), some (.inl r68), some (.inl ((((81 * r62) + (9 * r65)) + r68)))], [.inl ((-(((81 * r62) + (9 * r65)) + r68))), .inl y, .inl x, .inr (.inl 30)], n, D, (us s21 3046 j168), p, c0)) rfl ?_
                  exact K174 ((-(((81 * r62) + (9 * r65)) + r68)))  (by omega) (by have hjt := b172; unfold fA; (repeat' split at hjt) <;> (repeat' split) <;> omega) (by omega) (trivial)
              refine tz_lt (x := r62) rfl rfl (by omega) (fun h210 => ?_) (fun h210 => ?_)
              · exfalso; omega
              · show tt Zi d 150 (135, [some (.inr (.inl 30)), some (.inl y), some (.inl x), some (.inl r62), some (.inl r65), some (.inl r68), o_6], [.inr (.inl 30)], n, D, s21, p, c0) _
                refine tt_k 1 (S' := (136, [some (.inr (.inl 30)), some (.inl y), some (.inl x), some (.inl r62), some (.inl r65), some (.inl r68), o_6], [.inl r62, .inr (.inl 30)], n, D, s21, p, c0)) rfl ?_
                refine tz_ne (x := r62) rfl rfl (by omega) (fun h211 => ?_) (fun h211 => ?_)
                · exfalso; omega
                · show tt Zi d 150 (139, [some (.inr (.inl 30)), some (.inl y), some (.inl x), some (.inl r62), some (.inl r65), some (.inl r68), o_6], [.inr (.inl 30)], n, D, s21, p, c0) _
                  refine tt_k 1 (S' := (141, [some (.inr (.inl 30)), some (.inl y), some (.inl x), some (.inl r62), some (.inl r65), some (.inl r68), o_6], [.inl r65, .inr (.inl 30)], n, D, s21, p, c0)) rfl ?_
                  refine tz_lt (x := r65) rfl rfl (by omega) (fun h212 => ?_) (fun h212 => ?_)
                  · exfalso; omega
                  · show tt Zi d 150 (144, [some (.inr (.inl 30)), some (.inl y), some (.inl x), some (.inl r62), some (.inl r65), some (.inl r68), o_6], [.inr (.inl 30)], n, D, s21, p, c0) _
                    refine tt_k 1 (S' := (146, [some (.inr (.inl 30)), some (.inl y), some (.inl x), some (.inl r62), some (.inl r65), some (.inl r68), o_6], [.inl r65, .inr (.inl 30)], n, D, s21, p, c0)) rfl ?_
                    refine tz_ne (x := r65) rfl rfl (by omega) (fun h213 => ?_) (fun h213 => ?_)
                    · exfalso; omega
                    · show tt Zi d 150 (149, [some (.inr (.inl 30)), some (.inl y), some (.inl x), some (.inl r62), some (.inl r65), some (.inl r68), o_6], [.inr (.inl 30)], n, D, s21, p, c0) _
                      refine tt_k 1 (S' := (151, [some (.inr (.inl 30)), some (.inl y), some (.inl x), some (.inl r62), some (.inl r65), some (.inl r68), o_6], [.inl r68, .inr (.inl 30)], n, D, s21, p, c0)) rfl ?_
                      refine tz_ge (x := r68) rfl rfl (by omega) (fun h214 => ?_) (fun h214 => ?_)
                      · show tt Zi d 150 (158, [some (.inr (.inl 30)), some (.inl y), some (.inl x), some (.inl r62), some (.inl r65), some (.inl r68), o_6], [.inr (.inl 30)], n, D, s21, p, c0) _
                        refine tt_k 1 (S' := (159, [some (.inr (.inl 30)), some (.inl y), some (.inl x), some (.inl r62), some (.inl r65), some (.inl r68), o_6], [.inl 0, .inr (.inl 30)], n, D, s21, p, c0)) rfl ?_
                        exact K169 0  (by omega) (by first | (exfalso; omega) | rw [if_pos (by omega)] | rw [if_neg (by omega)]) (trivial)
                      · show tt Zi d 150 (154, [some (.inr (.inl 30)), some (.inl y), some (.inl x), some (.inl r62), some (.inl r65), some (.inl r68), o_6], [.inr (.inl 30)], n, D, s21, p, c0) _
                        refine tt_k 2 (S' := (159, [some (.inr (.inl 30)), some (.inl y), some (.inl x), some (.inl r62), some (.inl r65), some (.inl r68), o_6], [.inl 1, .inr (.inl 30)], n, D, s21, p, c0)) rfl ?_
                        exact K169 1  (by omega) (by first | (exfalso; omega) | rw [if_pos (by omega)] | rw [if_neg (by omega)]) (trivial)
            · show tt Zi d 150 (102, [some (.inr (.inl 30)), some (.inl y), some (.inl x), some (.inl r62), some (.inl r65), some (.inl r68), o_6], [], n, D, s21, p, c0) _
              refine tt_k 3 (S' := (107, [some (.inr (.inl 30)), some (.inl y), some (.inl x), some (.inl r62), some (.inl r65), some (.inl r68), o_6], [.inl (s21 3036), .inl x], n, D, s21, p, c0)) rfl ?_
              refine tz_eq (x := (s21 3036)) rfl rfl (by omega) (fun h215 => ?_) (fun h215 => ?_)
              · exfalso; omega
              · show tt Zi d 150 (110, [some (.inr (.inl 30)), some (.inl y), some (.inl x), some (.inl r62), some (.inl r65), some (.inl r68), o_6], [.inl x], n, D, s21, p, c0) _
                refine tt_k 3 (S' := (113, [some (.inr (.inl 30)), some (.inl y), some (.inl x), some (.inl r62), some (.inl r65), some (.inl r68), o_6], [.inl y, .inl x, .inr (.inl 30), .inl x], n, D, s21, p, c0)) rfl ?_
                have hgz : (gsX Z (s 3037) y x X) = 0 := by omega
                have b216 : 0 ≤ (s21 3047) ∧ (s21 3047) ≤ 255 := hS21 3047
                have b217 : 0 ≤ (s21 3048) ∧ (s21 3048) ≤ 8 := hS21 3048
                refine tt_cl (by omega) rfl (x_tell (Zi := Zi) (D := D) (s := s21) (p := p) (c := c0) (by omega) hS21 hC0 (64 * y + x) Z X (S y) x y (by omega) (by omega) hc28 (show (s21 3036) = 1 ∧ (s21 3050) = 0 ∧ x < (s21 3037) by omega) la hpl5 (show 0 ≤ (64 * y + x) ∧ (64 * y + x) + (s21 3037) - x ≤ 4096 by omega) hWO5 (show (s21 3016) + 300 ≤ 65535 by omega) (by rw [vB_, vW_, eB, eW, e31]; exact hq2 y (by omega) (by omega)) (by rw [vW_, eW]; exact hSy) (show 0 ≤ (s21 3035) ∧ (s21 3035) ≤ 22 ∧ (s21 3035) = X.2.2.1 by omega) (by rw [vB_, vW_]; exact htr0) hx52 hx51 hmr (by rw [vW_, eW]; exact hvX) hq1 (by rw [vW_, eW]; exact hgz)) ?_
                rintro _ _ ⟨s218, c219, r220, rfl, rfl, hS218, hC219, f221, g222, b223, k224, k225, k226, k227, k228, k229, k230⟩
                have hc231 : mv s218 := mv_fr f221 (by decide) hc28
                show tt Zi d 150 (116, [some (.inr (.inl 30)), some (.inl y), some (.inl x), some (.inl r62), some (.inl r65), some (.inl r68), o_6], [.inl r220, .inl x], n, D, s218, p, c219) _
                replace k224 : w_ok ((s218 3047)) ((s218 3048)) := k224
                replace k225 : (s21 3016) ≤ (s218 3016) ∧ (s218 3016) ≤ (s21 3016) + 250 := k225
                replace k226 : wrl (ruX Z ((s21 3037)) (S y) y x X).1 ((s218 3016)) ((s218 3047)) ((s218 3048)) ((c219 35)) := k226
                replace k227 : mrl (ruX Z ((s21 3037)) (S y) y x X).2.1 ((c219 36)) ((c219 37)) ((c219 38)) ((c219 39)) := k227
                replace k228 : (s218 3035) = (ruX Z ((s21 3037)) (S y) y x X).2.2.1 := k228
                replace k229 : trl (ruX Z ((s21 3037)) (S y) y x X).2.2.2 ((s218 3039)) ((s218 3037)) (x + r220) y ((c219 44)) := k229
                replace k230 : r220 = ruN Z ((s21 3037)) (S y) y x X := k230
                have b232 : 0 ≤ (s218 3047) ∧ (s218 3047) ≤ 255 := hS218 3047
                have b233 : 0 ≤ (s218 3048) ∧ (s218 3048) ≤ 8 := hS218 3048
                have b234 : 0 ≤ (s218 3016) ∧ (s218 3016) ≤ 65536 := hS218 3016
                have b235 : 0 ≤ (s218 3035) ∧ (s218 3035) ≤ 31 := hS218 3035
                have b236 : 0 ≤ (s218 3039) ∧ (s218 3039) ≤ 8192 := hS218 3039
                have b237 : 0 ≤ (s218 3037) ∧ (s218 3037) ≤ 64 := hS218 3037
                have e238 : s218 3050 = (s21 3050) := (f221 3050 (by decide))
                have b239 : 0 ≤ (s218 3050) ∧ (s218 3050) ≤ 8 := hS218 3050
                have e240 : s218 3036 = (s21 3036) := (f221 3036 (by decide))
                have b241 : 0 ≤ (s218 3036) ∧ (s218 3036) ≤ 1 := hS218 3036
                have e242 : s218 3037 = (s21 3037) := (f221 3037 (by decide))
                have e243 : s218 3038 = (s21 3038) := (f221 3038 (by decide))
                have b244 : 0 ≤ (s218 3038) ∧ (s218 3038) ≤ 64 := hS218 3038
                have e245 : s218 3017 = (s21 3017) := (f221 3017 (by decide))
                have b246 : 0 ≤ (s218 3017) ∧ (s218 3017) ≤ 65535 := hS218 3017
                have e247 : s218 3039 = (s21 3039) := (f221 3039 (by decide))
                have hx248 : zq Z (s218 3017) (s218 3018) (s218 3019) (s218 3020) (s218 3021) (s218 3022) (s218 3023) (s218 3024) (s218 3025) (s218 3026) := by rw [f221 3017 (by decide), f221 3018 (by decide), f221 3019 (by decide), f221 3020 (by decide), f221 3021 (by decide), f221 3022 (by decide), f221 3023 (by decide), f221 3024 (by decide), f221 3025 (by decide), f221 3026 (by decide)]; exact hx52
                refine tt_k 5 (S' := (23, [some (.inr (.inl 30)), some (.inl y), some (.inl (x + r220)), some (.inl r62), some (.inl r65), some (.inl r68), o_6], [], n, D, s218, p, c219)) rfl ?_
                obtain ⟨hI2, hn2⟩ := plI_s hq1 hI (by omega) (by omega) (by omega) (by omega) hSy
                have hst : stX Z (s 3037) (S y) y x X = ruX Z (s 3037) (S y) y x X := by unfold stX; rw [if_pos hgz]; rfl
                have hn1 : stN Z (s 3037) (S y) y x X = r220 := by have h := k230; rw [vW_, eW] at h; rw [h]; unfold stN; rw [if_pos hgz]; rfl
                rw [hn1, hst] at hI2
                rw [hn1] at hn2
                have uw := k226
                rw [vW_, eW] at uw
                have um := k227
                rw [vW_, eW] at um
                have up_ := k228
                rw [vW_, eW] at up_
                have ut := k229
                rw [vW_, eW] at ut
                have eB9 : s218 3039 = s 3039 := by omega
                have eW9 : s218 3037 = s 3037 := by omega
                rw [eB9, eW9] at ut
                exact ih (x + r220) (some (.inl r62)) (some (.inl r65)) (some (.inl r68)) (o_6) s218 c219 (by omega) hS218 (fr_tr (fr_tr hF0 f22 (by decide)) f221 (by decide)) hC219 (frc_tr hG0 g222 (by decide)) ⟨_, hI2, uw, um, up_, ut⟩ (show (x + r220) ≤ s 3037 by omega) (show (s 3037 - (x + r220)).toNat < m by omega)
