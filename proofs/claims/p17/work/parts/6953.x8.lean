/-! the reference's plane, exactly: its rows, its end -/
theorem kp_s {M : MT} {f g h l fa fb fc fn : Nat → Int} {k : Int} (hi : ∀ i : Nat, (i : Int) < k → f i = M 36 i ∧ g i = M 37 i ∧ h i = M 38 i ∧ l i = M 39 i) (hm : mrl M fa fb fc fn) (hk : 0 ≤ k ∧ k < 367) : ∀ i : Nat, (i : Int) < k + 1 → ua f k.toNat (fa k.toNat) i = M 36 i ∧ ua g k.toNat (fb k.toNat) i = M 37 i ∧ ua h k.toNat (fc k.toNat) i = M 38 i ∧ ua l k.toNat (fn k.toNat) i = M 39 i := by
  intro i h1
  by_cases e : i = k.toNat
  · obtain ⟨m1, m2, m3, m4⟩ := hm k.toNat (by omega)
    rw [e, ua_eq, ua_eq, ua_eq, ua_eq]
    exact ⟨m1, m2, m3, m4⟩
  · rw [ua_ne e, ua_ne e, ua_ne e, ua_ne e]
    exact hi i (by omega)
set_option maxRecDepth 100000 in
set_option maxHeartbeats 4000000 in
theorem x_keep_L2 {Zi : Nat → Option (Nat × (Nat → Int))} {d n : Nat} {D : Nat → Nat × Nat} {s : Nat → Int} {p : Nat → Nat} {c : Nat → Nat → Int}  {Q : mi_Rs → mi_H → Prop} (hd : 0 ≤ d) (hS : bS s) (hC : bC D c) (M : MT) (hq0 : mrl M (c 36) (c 37) (c 38) (c 39))
  (hK : ∀ (k : Int) (c0 : Nat → Nat → Int) (b_k : 0 ≤ k ∧ k ≤ 367) (hC0 : bC D c0) (hG0 : frc c c0 [40, 41, 42, 43]) (i0 : ∀ i : Nat, (i : Int) < k → c0 40 i = M 36 i ∧ c0 41 i = M 37 i ∧ c0 42 i = M 38 i ∧ c0 43 i = M 39 i), (k = 367) → tt Zi d 176 (63, [some (.inr (.inl 30)), some (.inl k)], [], n, D, s, p, c0) Q) :
  ∀ (m : Nat) (k : Int) (c0 : Nat → Nat → Int) (b_k : 0 ≤ k ∧ k ≤ 367) (hC0 : bC D c0) (hG0 : frc c c0 [40, 41, 42, 43]) (i0 : ∀ i : Nat, (i : Int) < k → c0 40 i = M 36 i ∧ c0 41 i = M 37 i ∧ c0 42 i = M 38 i ∧ c0 43 i = M 39 i), (367 - k).toNat < m → tt Zi d 176 (2, [some (.inr (.inl 30)), some (.inl k)], [], n, D, s, p, c0) Q := by
  intro m
  induction m with
  | zero => intro k c0 b_k hC0 hG0 i0 hm; exact absurd hm (by omega)
  | succ m ih =>
    intro k c0 b_k hC0 hG0 i0 hm
    have hm0 : mrl M (c0 36) (c0 37) (c0 38) (c0 39) := by rw [hG0 36 (by decide), hG0 37 (by decide), hG0 38 (by decide), hG0 39 (by decide)]; exact hq0
    refine tt_k 2 (S' := (6, [some (.inr (.inl 30)), some (.inl k)], [.inl 367, .inl k], n, D, s, p, c0)) rfl ?_
    refine tb_ge (x := k) (y := 367) rfl rfl (by omega) (fun h1 => ?_) (fun h1 => ?_)
    · show tt Zi d 176 (63, [some (.inr (.inl 30)), some (.inl k)], [], n, D, s, p, c0) _
      exact hK k c0 (by omega) hC0 hG0 i0 (by omega)
    · show tt Zi d 176 (9, [some (.inr (.inl 30)), some (.inl k)], [], n, D, s, p, c0) _
      refine tt_k 6 (S' := (19, [some (.inr (.inl 30)), some (.inl k)], [.inl k, .inr (.inl 36), .inl k, .inr (.inl 40)], n, D, s, p, c0)) rfl ?_
      refine tt_ildv (i := k) (v := (c0 36 (k).toNat)) rfl rfl (by omega) rfl ?_
      show tt Zi d 176 (20, [some (.inr (.inl 30)), some (.inl k)], [.inl (c0 36 (k).toNat), .inl k, .inr (.inl 40)], n, D, s, p, c0) _
      have b2 : -2147483648 ≤ (c0 36 (k).toNat) ∧ (c0 36 (k).toNat) ≤ 2147483647 := hC0 36 _
      refine tt_ist (i := k) (x := (c0 36 (k).toNat)) rfl rfl (by omega) ?_
      show tt Zi d 176 (21, [some (.inr (.inl 30)), some (.inl k)], [], n, D, s, p, (uc c0 40 (ua (c0 40) (k).toNat (c0 36 (k).toNat)))) _
      refine tt_k 6 (S' := (31, [some (.inr (.inl 30)), some (.inl k)], [.inl k, .inr (.inl 37), .inl k, .inr (.inl 41)], n, D, s, p, (uc c0 40 (ua (c0 40) (k).toNat (c0 36 (k).toNat))))) rfl ?_
      refine tt_ildv (i := k) (v := (c0 37 (k).toNat)) rfl rfl (by omega) rfl ?_
      show tt Zi d 176 (32, [some (.inr (.inl 30)), some (.inl k)], [.inl (c0 37 (k).toNat), .inl k, .inr (.inl 41)], n, D, s, p, (uc c0 40 (ua (c0 40) (k).toNat (c0 36 (k).toNat)))) _
      have b3 : -2147483648 ≤ (c0 37 (k).toNat) ∧ (c0 37 (k).toNat) ≤ 2147483647 := hC0 37 _
      refine tt_ist (i := k) (x := (c0 37 (k).toNat)) rfl rfl (by omega) ?_
      show tt Zi d 176 (33, [some (.inr (.inl 30)), some (.inl k)], [], n, D, s, p, (uc (uc c0 40 (ua (c0 40) (k).toNat (c0 36 (k).toNat))) 41 (ua (c0 41) (k).toNat (c0 37 (k).toNat)))) _
      refine tt_k 6 (S' := (43, [some (.inr (.inl 30)), some (.inl k)], [.inl k, .inr (.inl 38), .inl k, .inr (.inl 42)], n, D, s, p, (uc (uc c0 40 (ua (c0 40) (k).toNat (c0 36 (k).toNat))) 41 (ua (c0 41) (k).toNat (c0 37 (k).toNat))))) rfl ?_
      refine tt_ildv (i := k) (v := (c0 38 (k).toNat)) rfl rfl (by omega) rfl ?_
      show tt Zi d 176 (44, [some (.inr (.inl 30)), some (.inl k)], [.inl (c0 38 (k).toNat), .inl k, .inr (.inl 42)], n, D, s, p, (uc (uc c0 40 (ua (c0 40) (k).toNat (c0 36 (k).toNat))) 41 (ua (c0 41) (k).toNat (c0 37 (k).toNat)))) _
      have b4 : -2147483648 ≤ (c0 38 (k).toNat) ∧ (c0 38 (k).toNat) ≤ 2147483647 := hC0 38 _
      refine tt_ist (i := k) (x := (c0 38 (k).toNat)) rfl rfl (by omega) ?_
      show tt Zi d 176 (45, [some (.inr (.inl 30)), some (.inl k)], [], n, D, s, p, (uc (uc (uc c0 40 (ua (c0 40) (k).toNat (c0 36 (k).toNat))) 41 (ua (c0 41) (k).toNat (c0 37 (k).toNat))) 42 (ua (c0 42) (k).toNat (c0 38 (k).toNat)))) _
      refine tt_k 6 (S' := (55, [some (.inr (.inl 30)), some (.inl k)], [.inl k, .inr (.inl 39), .inl k, .inr (.inl 43)], n, D, s, p, (uc (uc (uc c0 40 (ua (c0 40) (k).toNat (c0 36 (k).toNat))) 41 (ua (c0 41) (k).toNat (c0 37 (k).toNat))) 42 (ua (c0 42) (k).toNat (c0 38 (k).toNat))))) rfl ?_
      refine tt_ildv (i := k) (v := (c0 39 (k).toNat)) rfl rfl (by omega) rfl ?_
      show tt Zi d 176 (56, [some (.inr (.inl 30)), some (.inl k)], [.inl (c0 39 (k).toNat), .inl k, .inr (.inl 43)], n, D, s, p, (uc (uc (uc c0 40 (ua (c0 40) (k).toNat (c0 36 (k).toNat))) 41 (ua (c0 41) (k).toNat (c0 37 (k).toNat))) 42 (ua (c0 42) (k).toNat (c0 38 (k).toNat)))) _
      have b5 : -2147483648 ≤ (c0 39 (k).toNat) ∧ (c0 39 (k).toNat) ≤ 2147483647 := hC0 39 _
      refine tt_ist (i := k) (x := (c0 39 (k).toNat)) rfl rfl (by omega) ?_
      show tt Zi d 176 (57, [some (.inr (.inl 30)), some (.inl k)], [], n, D, s, p, (uc (uc (uc (uc c0 40 (ua (c0 40) (k).toNat (c0 36 (k).toNat))) 41 (ua (c0 41) (k).toNat (c0 37 (k).toNat))) 42 (ua (c0 42) (k).toNat (c0 38 (k).toNat))) 43 (ua (c0 43) (k).toNat (c0 39 (k).toNat)))) _
      refine tt_k 2 (S' := (2, [some (.inr (.inl 30)), some (.inl (k + 1))], [], n, D, s, p, (uc (uc (uc (uc c0 40 (ua (c0 40) (k).toNat (c0 36 (k).toNat))) 41 (ua (c0 41) (k).toNat (c0 37 (k).toNat))) 42 (ua (c0 42) (k).toNat (c0 38 (k).toNat))) 43 (ua (c0 43) (k).toNat (c0 39 (k).toNat))))) rfl ?_
      exact ih (k + 1) (uc (uc (uc (uc c0 40 (ua (c0 40) (k).toNat (c0 36 (k).toNat))) 41 (ua (c0 41) (k).toNat (c0 37 (k).toNat))) 42 (ua (c0 42) (k).toNat (c0 38 (k).toNat))) 43 (ua (c0 43) (k).toNat (c0 39 (k).toNat))) (by omega) (bC_st (bC_st (bC_st (bC_st hC0 (show -2147483648 ≤ (c0 36 (k).toNat) ∧ (c0 36 (k).toNat) ≤ 2147483647 by omega)) (show -2147483648 ≤ (c0 37 (k).toNat) ∧ (c0 37 (k).toNat) ≤ 2147483647 by omega)) (show -2147483648 ≤ (c0 38 (k).toNat) ∧ (c0 38 (k).toNat) ≤ 2147483647 by omega)) (show -2147483648 ≤ (c0 39 (k).toNat) ∧ (c0 39 (k).toNat) ≤ 2147483647 by omega)) (frc_uc (by decide) (frc_uc (by decide) (frc_uc (by decide) (frc_uc (by decide) hG0)))) (kp_s i0 hm0 (by omega)) (show (367 - (k + 1)).toNat < m by omega)
set_option maxRecDepth 100000 in
set_option maxHeartbeats 4000000 in
theorem x_keep {Zi : Nat → Option (Nat × (Nat → Int))} {d n : Nat} {D : Nat → Nat × Nat} {s : Nat → Int} {p : Nat → Nat} {c : Nat → Nat → Int} (hd : 0 ≤ d) (hS : bS s) (hC : bC D c) (M : MT) (hp0 : mrl M (c 36) (c 37) (c 38) (c 39)) : tt Zi d 176 (0, [some (.inr (.inl 30)), none], [], n, D, s, p, c) (fun R H => ∃ (c' : Nat → Nat → Int), R = .inl none ∧ H = (n, D, s, p, c') ∧ bC D c' ∧ frc c c' [40, 41, 42, 43] ∧ (mrl M (c' 40) (c' 41) (c' 42) (c' 43))) := by
  refine tt_k 2 (S' := (2, [some (.inr (.inl 30)), some (.inl 0)], [], n, D, s, p, c)) rfl ?_
  refine x_keep_L2 (Zi := Zi) (D := D) (s := s) (p := p) (c := c) hd hS hC M  hp0 ?_ _ 0 c (by omega) hC frc_rf (fun i hi => absurd hi (by omega)) (Nat.lt_succ_self _)
  intro x1 c2 b3 hC2 g4 i5 hx6
  show tt Zi d 176 (63, [some (.inr (.inl 30)), some (.inl x1)], [], n, D, s, p, c2) _
  have hx7 : mrl M (c2 36) (c2 37) (c2 38) (c2 39) := by rw [g4 36 (by decide), g4 37 (by decide), g4 38 (by decide), g4 39 (by decide)]; exact hp0
  exact tt_rtv rfl rfl ⟨c2, rfl, rfl, hC2, (frc_tr frc_rf g4 (by decide)), fun i hi => i5 i (by omega)⟩
set_option maxRecDepth 100000 in
set_option maxHeartbeats 4000000 in
theorem x_plane_L6 {Zi : Nat → Option (Nat × (Nat → Int))} {d n : Nat} {D : Nat → Nat × Nat} {s : Nat → Int} {p : Nat → Nat} {c : Nat → Nat → Int}  {Q : mi_Rs → mi_H → Prop} (hd : 6 ≤ d) (hS : bS s) (hC : bC D c) (Z : Nat → Int) (S : Int → Int → Int) (R : XT) (U : Int) (hq0 : zq Z (s 3017) (s 3018) (s 3019) (s 3020) (s 3021) (s 3022) (s 3023) (s 3024) (s 3025) (s 3026)) (hq1 : mv Z) (hq2 : ∀ yy : Int, 0 ≤ yy → yy < s 3038 → smc (S yy) (s 3039 + 64 * yy) (s 3037) (c 31)) (hq3 : ∀ yy : Int, 0 ≤ yy → yy < s 3038 → ∀ xx : Int, 0 ≤ xx → xx < s 3037 → 0 ≤ S yy xx ∧ S yy xx ≤ Z 3017) (hq4 : s 3036 = 1 ∧ s 3050 = 0 ∧ 1 ≤ s 3037) (hq5 : U + cb Z * 4096 + 104857600 ≤ 17179869184)
  (hK : ∀ (y : Int) (o_2 : Option mi_V) (o_3 : Option mi_V) (o_4 : Option mi_V) (o_5 : Option mi_V) (o_6 : Option mi_V) (s0 : Nat → Int) (c0 : Nat → Nat → Int) (b_y : 0 ≤ y ∧ y ≤ 64) (hS0 : bS s0) (hF0 : fr s s0 [3016, 3035, 3041, 3042, 3043, 3044, 3045, 3046, 3047, 3048]) (hC0 : bC D c0) (hG0 : frc c c0 [35, 36, 37, 38, 39, 44]) (i0 : plR Z S R U (s 3037) (s 3038) y 0 (s0 3035) (s0 3016) (s0 3047) (s0 3048) (s 3039) (c0 35) (c0 36) (c0 37) (c0 38) (c0 39) (c0 44)) (i1 : y ≤ s 3038), (s 3038 ≤ y) → tt Zi d 150 (210, [some (.inr (.inl 30)), some (.inl y), o_2, o_3, o_4, o_5, o_6], [], n, D, s0, p, c0) Q) :
  ∀ (m : Nat) (y : Int) (o_2 : Option mi_V) (o_3 : Option mi_V) (o_4 : Option mi_V) (o_5 : Option mi_V) (o_6 : Option mi_V) (s0 : Nat → Int) (c0 : Nat → Nat → Int) (b_y : 0 ≤ y ∧ y ≤ 64) (hS0 : bS s0) (hF0 : fr s s0 [3016, 3035, 3041, 3042, 3043, 3044, 3045, 3046, 3047, 3048]) (hC0 : bC D c0) (hG0 : frc c c0 [35, 36, 37, 38, 39, 44]) (i0 : plR Z S R U (s 3037) (s 3038) y 0 (s0 3035) (s0 3016) (s0 3047) (s0 3048) (s 3039) (c0 35) (c0 36) (c0 37) (c0 38) (c0 39) (c0 44)) (i1 : y ≤ s 3038), (s 3038 - y).toNat < m → tt Zi d 150 (6, [some (.inr (.inl 30)), some (.inl y), o_2, o_3, o_4, o_5, o_6], [], n, D, s0, p, c0) Q := by
  intro m
  induction m with
  | zero => intro y o_2 o_3 o_4 o_5 o_6 s0 c0 b_y hS0 hF0 hC0 hG0 i0 i1 hm; exact absurd hm (by omega)
  | succ m ih =>
    intro y o_2 o_3 o_4 o_5 o_6 s0 c0 b_y hS0 hF0 hC0 hG0 i0 i1 hm
    have e1 : s0 3050 = s 3050 := hF0 3050 (by decide)
    have b2 : 0 ≤ (s0 3050) ∧ (s0 3050) ≤ 8 := hS0 3050
    have b3 : 0 ≤ (s 3050) ∧ (s 3050) ≤ 8 := hS 3050
    have e4 : s0 3036 = s 3036 := hF0 3036 (by decide)
    have b5 : 0 ≤ (s0 3036) ∧ (s0 3036) ≤ 1 := hS0 3036
    have b6 : 0 ≤ (s 3036) ∧ (s 3036) ≤ 1 := hS 3036
    have e7 : s0 3037 = s 3037 := hF0 3037 (by decide)
    have b8 : 0 ≤ (s0 3037) ∧ (s0 3037) ≤ 64 := hS0 3037
    have b9 : 0 ≤ (s 3037) ∧ (s 3037) ≤ 64 := hS 3037
    have e10 : s0 3038 = s 3038 := hF0 3038 (by decide)
    have b11 : 0 ≤ (s0 3038) ∧ (s0 3038) ≤ 64 := hS0 3038
    have b12 : 0 ≤ (s 3038) ∧ (s 3038) ≤ 64 := hS 3038
    have e13 : s0 3017 = s 3017 := hF0 3017 (by decide)
    have b14 : 0 ≤ (s0 3017) ∧ (s0 3017) ≤ 65535 := hS0 3017
    have b15 : 0 ≤ (s 3017) ∧ (s 3017) ≤ 65535 := hS 3017
    have e16 : s0 3039 = s 3039 := hF0 3039 (by decide)
    have b17 : 0 ≤ (s0 3039) ∧ (s0 3039) ≤ 8192 := hS0 3039
    have b18 : 0 ≤ (s 3039) ∧ (s 3039) ≤ 8192 := hS 3039
    have eB : s0 3039 = s 3039 := hF0 3039 (by decide)
    have eW : s0 3037 = s 3037 := hF0 3037 (by decide)
    have eHh : s0 3038 = s 3038 := hF0 3038 (by decide)
    have eT : s0 3036 = s 3036 := hF0 3036 (by decide)
    have eF : s0 3050 = s 3050 := hF0 3050 (by decide)
    have e31 : c0 31 = c 31 := hG0 31 (by decide)
    have hz0 : zq Z (s0 3017) (s0 3018) (s0 3019) (s0 3020) (s0 3021) (s0 3022) (s0 3023) (s0 3024) (s0 3025) (s0 3026) := by rw [hF0 3017 (by decide), hF0 3018 (by decide), hF0 3019 (by decide), hF0 3020 (by decide), hF0 3021 (by decide), hF0 3022 (by decide), hF0 3023 (by decide), hF0 3024 (by decide), hF0 3025 (by decide), hF0 3026 (by decide)]; exact hq0
    refine tt_k 3 (S' := (11, [some (.inr (.inl 30)), some (.inl y), o_2, o_3, o_4, o_5, o_6], [.inl (s0 3038), .inl y], n, D, s0, p, c0)) rfl ?_
    refine tb_ge (x := y) (y := (s0 3038)) rfl rfl (by omega) (fun h19 => ?_) (fun h19 => ?_)
    · show tt Zi d 150 (210, [some (.inr (.inl 30)), some (.inl y), o_2, o_3, o_4, o_5, o_6], [], n, D, s0, p, c0) _
      exact hK y (o_2) (o_3) (o_4) (o_5) (o_6) s0 c0 (by omega) hS0 hF0 hC0 hG0 i0 i1 (by omega)
    · show tt Zi d 150 (14, [some (.inr (.inl 30)), some (.inl y), o_2, o_3, o_4, o_5, o_6], [], n, D, s0, p, c0) _
      refine tt_k 2 (S' := (18, [some (.inr (.inl 30)), some (.inl y), o_2, o_3, o_4, o_5, o_6], [.inl (s0 3050)], n, D, s0, p, c0)) rfl ?_
      refine tz_ne (x := (s0 3050)) rfl rfl (by omega) (fun h20 => ?_) (fun h20 => ?_)
      · exfalso; omega
      · show tt Zi d 150 (21, [some (.inr (.inl 30)), some (.inl y), o_2, o_3, o_4, o_5, o_6], [], n, D, s0, p, c0) _
        refine tt_k 2 (S' := (23, [some (.inr (.inl 30)), some (.inl y), some (.inl 0), o_3, o_4, o_5, o_6], [], n, D, s0, p, c0)) rfl ?_
        have b21 : -2147483648 ≤ (s0 3018) ∧ (s0 3018) ≤ 2147483647 := hS0 3018
        have b22 : -2147483648 ≤ (s0 3019) ∧ (s0 3019) ≤ 2147483647 := hS0 3019
        have b23 : -2147483648 ≤ (s0 3020) ∧ (s0 3020) ≤ 2147483647 := hS0 3020
        have b24 : -2147483648 ≤ (s0 3021) ∧ (s0 3021) ≤ 2147483647 := hS0 3021
        have b25 : 0 ≤ (s0 3022) ∧ (s0 3022) ≤ 65535 := hS0 3022
        have b26 : -2147483648 ≤ (s0 3023) ∧ (s0 3023) ≤ 2147483647 := hS0 3023
        have b27 : -2147483648 ≤ (s0 3024) ∧ (s0 3024) ≤ 2147483647 := hS0 3024
        have b28 : 0 ≤ (s0 3025) ∧ (s0 3025) ≤ 31 := hS0 3025
        have b29 : 0 ≤ (s0 3026) ∧ (s0 3026) ≤ 96 := hS0 3026
        refine x_plane_L23 (Zi := Zi) (D := D) (s := s0) (p := p) (c := c0) hd hS0 hC0 Z S R U y (by omega) hz0 hq1 (by rw [eHh, eB, eW, e31]; exact hq2) (by rw [eHh, eW]; exact hq3) (show (s0 3036) = 1 ∧ (s0 3050) = 0 ∧ 1 ≤ (s0 3037) by omega) hq5 (show y < (s0 3038) by omega) ?_ _ 0 (o_3) (o_4) (o_5) (o_6) s0 c0 (by omega) hS0 fr_rf hC0 frc_rf (by rw [eW, eHh, eB]; exact i0) (show 0 ≤ (s0 3037) by omega) (Nat.lt_succ_self _)
        intro x30 x31 x32 x33 x34 s35 c36 b37 hS35 f38 hC36 g39 i40 i41 hx42
        show tt Zi d 150 (204, [some (.inr (.inl 30)), some (.inl y), some (.inl x30), x31, x32, x33, x34], [], n, D, s35, p, c36) _
        have e43 : s35 3050 = (s0 3050) := (f38 3050 (by decide))
        have b44 : 0 ≤ (s35 3050) ∧ (s35 3050) ≤ 8 := hS35 3050
        have e45 : s35 3036 = (s0 3036) := (f38 3036 (by decide))
        have b46 : 0 ≤ (s35 3036) ∧ (s35 3036) ≤ 1 := hS35 3036
        have e47 : s35 3037 = (s0 3037) := (f38 3037 (by decide))
        have b48 : 0 ≤ (s35 3037) ∧ (s35 3037) ≤ 64 := hS35 3037
        have e49 : s35 3038 = (s0 3038) := (f38 3038 (by decide))
        have b50 : 0 ≤ (s35 3038) ∧ (s35 3038) ≤ 64 := hS35 3038
        have e51 : s35 3017 = (s0 3017) := (f38 3017 (by decide))
        have b52 : 0 ≤ (s35 3017) ∧ (s35 3017) ≤ 65535 := hS35 3017
        have e53 : s35 3039 = (s0 3039) := (f38 3039 (by decide))
        have b54 : 0 ≤ (s35 3039) ∧ (s35 3039) ≤ 8192 := hS35 3039
        refine tt_k 2 (S' := (6, [some (.inr (.inl 30)), some (.inl (y + 1)), some (.inl x30), x31, x32, x33, x34], [], n, D, s35, p, c36)) rfl ?_
        have hr0 := i40
        rw [eW, eHh, eB] at hr0
        obtain ⟨X, hI, hwr, hmr, hpc, htr⟩ := hr0
        have htr2 : trl X.2.2.2 (s 3039) (s 3037) 0 (y + 1) (c36 44) := fun xx yy h1 h2 h3 h4 => htr xx yy h1 h2 h3 (by omega)
        exact ih (y + 1) (some (.inl x30)) (x31) (x32) (x33) (x34) s35 c36 (by omega) hS35 (fr_tr hF0 f38 (by decide)) hC36 (frc_tr hG0 g39 (by decide)) ⟨X, plI_r hI (by omega) (by omega) (by omega) (by omega), hwr, hmr, hpc, htr2⟩ (show (y + 1) ≤ s 3038 by omega) (show (s 3038 - (y + 1)).toNat < m by omega)
