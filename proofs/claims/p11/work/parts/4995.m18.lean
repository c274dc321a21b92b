/-! the reference unpacks -/
set_option maxRecDepth 100000 in
set_option maxHeartbeats 4000000 in
theorem k_section_L116 {Zi : Nat → Option (Nat × (Nat → Int))} {d n : Nat} {D : Nat → Nat × Nat} {s : Nat → Int} {p : Nat → Nat} {c : Nat → Nat → Int} {o_1 : Option mi_V} {o_2 : Option mi_V} {o_4 : Option mi_V} {Q : mi_Rs → mi_H → Prop} (hd : 9 ≤ d) (hS : bS s) (hC : bC D c) (ln : Int) (b_ln : 0 ≤ ln ∧ ln ≤ 65535)
  (hK : ∀ (k_ : Int) (o_6 : Option mi_V) (s0 : Nat → Int) (b_k_ : 0 ≤ k_ ∧ k_ ≤ 65535) (hS0 : bS s0) (hF0 : fr s s0 [3049, 3050, 3051]) (i0 : s 3049 ≤ s0 3049) (i1 : s 3050 ≠ 0 → s0 3050 ≠ 0) (i2 : k_ ≤ ln), (True) → tt Zi d 190 (141, [some (.inr (.inl 30)), o_1, o_2, some (.inl ln), o_4, some (.inl k_), o_6], [], n, D, s0, p, c) Q) :
  ∀ (m : Nat) (k_ : Int) (o_6 : Option mi_V) (s0 : Nat → Int) (b_k_ : 0 ≤ k_ ∧ k_ ≤ 65535) (hS0 : bS s0) (hF0 : fr s s0 [3049, 3050, 3051]) (i0 : s 3049 ≤ s0 3049) (i1 : s 3050 ≠ 0 → s0 3050 ≠ 0) (i2 : k_ ≤ ln), (ln - k_).toNat < m → tt Zi d 190 (116, [some (.inr (.inl 30)), o_1, o_2, some (.inl ln), o_4, some (.inl k_), o_6], [], n, D, s0, p, c) Q := by
  intro m
  induction m with
  | zero => intro k_ o_6 s0 b_k_ hS0 hF0 i0 i1 i2 hm; exact absurd hm (by omega)
  | succ m ih =>
    intro k_ o_6 s0 b_k_ hS0 hF0 i0 i1 i2 hm
    have e1 : s0 3061 = s 3061 := hF0 3061 (by decide)
    have b2 : 0 ≤ (s0 3061) ∧ (s0 3061) ≤ 3 := hS0 3061
    have b3 : 0 ≤ (s 3061) ∧ (s 3061) ≤ 3 := hS 3061
    have e4 : s0 3059 = s 3059 := hF0 3059 (by decide)
    have b5 : 0 ≤ (s0 3059) ∧ (s0 3059) ≤ 3 := hS0 3059
    have b6 : 0 ≤ (s 3059) ∧ (s 3059) ≤ 3 := hS 3059
    have e7 : s0 3060 = s 3060 := hF0 3060 (by decide)
    have b8 : 0 ≤ (s0 3060) ∧ (s0 3060) ≤ 255 := hS0 3060
    have b9 : 0 ≤ (s 3060) ∧ (s 3060) ≤ 255 := hS 3060
    have e10 : s0 3057 = s 3057 := hF0 3057 (by decide)
    have b11 : 0 ≤ (s0 3057) ∧ (s0 3057) ≤ 65535 := hS0 3057
    have b12 : 0 ≤ (s 3057) ∧ (s 3057) ≤ 65535 := hS 3057
    have e13 : s0 3058 = s 3058 := hF0 3058 (by decide)
    have b14 : 0 ≤ (s0 3058) ∧ (s0 3058) ≤ 65535 := hS0 3058
    have b15 : 0 ≤ (s 3058) ∧ (s 3058) ≤ 65535 := hS 3058
    refine tt_k 2 (S' := (119, [some (.inr (.inl 30)), o_1, o_2, some (.inl ln), o_4, some (.inl k_), o_6], [.inl ln, .inl k_], n, D, s0, p, c)) rfl ?_
    refine tb_ge (x := k_) (y := ln) rfl rfl (by omega) (fun h16 => ?_) (fun h16 => ?_)
    · show tt Zi d 190 (141, [some (.inr (.inl 30)), o_1, o_2, some (.inl ln), o_4, some (.inl k_), o_6], [], n, D, s0, p, c) _
      exact hK k_ (o_6) s0 (by omega) hS0 hF0 (show s 3049 ≤ (s0 3049) by omega) (show s 3050 ≠ 0 → (s0 3050) ≠ 0 by omega) (show k_ ≤ ln by omega) trivial
    · show tt Zi d 190 (122, [some (.inr (.inl 30)), o_1, o_2, some (.inl ln), o_4, some (.inl k_), o_6], [], n, D, s0, p, c) _
      refine tt_k 2 (S' := (126, [some (.inr (.inl 30)), o_1, o_2, some (.inl ln), o_4, some (.inl k_), o_6], [.inl (s0 3050)], n, D, s0, p, c)) rfl ?_
      have b17 : 0 ≤ (s0 3050) ∧ (s0 3050) ≤ 8 := hS0 3050
      refine tz_ne (x := (s0 3050)) rfl rfl (by omega) (fun h18 => ?_) (fun h18 => ?_)
      · show tt Zi d 190 (141, [some (.inr (.inl 30)), o_1, o_2, some (.inl ln), o_4, some (.inl k_), o_6], [], n, D, s0, p, c) _
        exact hK k_ (o_6) s0 (by omega) hS0 hF0 (show s 3049 ≤ (s0 3049) by omega) (show s 3050 ≠ 0 → (s0 3050) ≠ 0 by omega) (show k_ ≤ ln by omega) trivial
      · show tt Zi d 190 (129, [some (.inr (.inl 30)), o_1, o_2, some (.inl ln), o_4, some (.inl k_), o_6], [], n, D, s0, p, c) _
        refine tt_k 1 (S' := (130, [some (.inr (.inl 30)), o_1, o_2, some (.inl ln), o_4, some (.inl k_), o_6], [.inr (.inl 30)], n, D, s0, p, c)) rfl ?_
        refine tt_cl (by omega) rfl (k_nextByte (Zi := Zi) (D := D) (s := s0) (p := p) (c := c) (by omega) hS0 hC ) ?_
        rintro _ _ ⟨s19, r20, rfl, rfl, hS19, f21, b22, k23, k24, k25⟩
        show tt Zi d 190 (133, [some (.inr (.inl 30)), o_1, o_2, some (.inl ln), o_4, some (.inl k_), o_6], [.inl r20], n, D, s19, p, c) _
        replace k23 : (s19 3050) = 0 → (s19 3049) = (s0 3049) + 1 ∧ (s19 3049) ≤ (s0 3014) := k23
        replace k24 : (s0 3049) ≤ (s19 3049) := k24
        replace k25 : (s0 3050) ≠ 0 → (s19 3050) ≠ 0 := k25
        have b26 : 0 ≤ (s0 3049) ∧ (s0 3049) ≤ 32769 := hS0 3049
        have b27 : 0 ≤ (s0 3014) ∧ (s0 3014) ≤ 32768 := hS0 3014
        have b28 : 0 ≤ (s19 3050) ∧ (s19 3050) ≤ 8 := hS19 3050
        have b29 : 0 ≤ (s19 3049) ∧ (s19 3049) ≤ 32769 := hS19 3049
        have e30 : s19 3061 = (s0 3061) := (f21 3061 (by decide))
        have b31 : 0 ≤ (s19 3061) ∧ (s19 3061) ≤ 3 := hS19 3061
        have e32 : s19 3059 = (s0 3059) := (f21 3059 (by decide))
        have b33 : 0 ≤ (s19 3059) ∧ (s19 3059) ≤ 3 := hS19 3059
        have e34 : s19 3060 = (s0 3060) := (f21 3060 (by decide))
        have b35 : 0 ≤ (s19 3060) ∧ (s19 3060) ≤ 255 := hS19 3060
        have e36 : s19 3057 = (s0 3057) := (f21 3057 (by decide))
        have b37 : 0 ≤ (s19 3057) ∧ (s19 3057) ≤ 65535 := hS19 3057
        have e38 : s19 3058 = (s0 3058) := (f21 3058 (by decide))
        have b39 : 0 ≤ (s19 3058) ∧ (s19 3058) ≤ 65535 := hS19 3058
        refine tt_k 3 (S' := (116, [some (.inr (.inl 30)), o_1, o_2, some (.inl ln), o_4, some (.inl (k_ + 1)), some (.inl r20)], [], n, D, s19, p, c)) rfl ?_
        exact ih (k_ + 1) (some (.inl r20)) s19 (by omega) hS19 (fr_tr hF0 f21 (by decide)) (show s 3049 ≤ (s19 3049) by omega) (show s 3050 ≠ 0 → (s19 3050) ≠ 0 by omega) (show (k_ + 1) ≤ ln by omega) (show (ln - (k_ + 1)).toNat < m by omega)
set_option maxRecDepth 100000 in
set_option maxHeartbeats 4000000 in
theorem k_section {Zi : Nat → Option (Nat × (Nat → Int))} {d n : Nat} {D : Nat → Nat × Nat} {s : Nat → Int} {p : Nat → Nat} {c : Nat → Nat → Int} (hd : 9 ≤ d) (hS : bS s) (hC : bC D c) (v : Int) (b_v : 0 ≤ v ∧ v ≤ 255) (hp0 : s 3050 = 0) (hp1 : s 3061 ≤ s 3059 ∧ (0 < s 3059 → (2 ≤ s 3060 ∧ s 3060 ≤ 16) ∧ (1 ≤ s 3057 ∧ s 3057 ≤ 64) ∧ (1 ≤ s 3058 ∧ s 3058 ≤ 64))) (hp2 : v = 247 → s 3059 = 0) (hp3 : v = 218 → s 3061 < s 3059) : tt Zi d 190 (0, [some (.inr (.inl 30)), some (.inl v), none, none, none, none, none], [], n, D, s, p, c) (fun R H => ∃ (s' : Nat → Int) (c' : Nat → Nat → Int), R = .inl none ∧ H = (n, D, s', p, c') ∧ bS s' ∧ bC D c' ∧ fr s s' [3017, 3018, 3019, 3020, 3021, 3022, 3023, 3024, 3025, 3026, 3035, 3036, 3037, 3038, 3039, 3041, 3042, 3043, 3044, 3045, 3046, 3049, 3050, 3051, 3052, 3053, 3054, 3057, 3058, 3059, 3060, 3061] ∧ frc c c' [36, 37, 38, 39, 40, 41, 42, 43, 44, 45, 46] ∧ (s 3049 ≤ s' 3049) ∧ (s' 3050 = 0 → s' 3061 ≤ s' 3059 ∧ (0 < s' 3059 → (2 ≤ s' 3060 ∧ s' 3060 ≤ 16) ∧ (1 ≤ s' 3057 ∧ s' 3057 ≤ 64) ∧ (1 ≤ s' 3058 ∧ s' 3058 ≤ 64)))) := by
  refine tt_k 4 (S' := (6, [some (.inr (.inl 30)), some (.inl v), some (.inl (s 3049)), none, none, none, none], [.inr (.inl 30)], n, D, s, p, c)) rfl ?_
  refine tt_cl (by omega) rfl (k_nextTwo (Zi := Zi) (D := D) (s := s) (p := p) (c := c) (by omega) hS hC ) ?_
  rintro _ _ ⟨s1, r2, rfl, rfl, hS1, f3, b4, k5, k6, k7⟩
  show tt Zi d 190 (9, [some (.inr (.inl 30)), some (.inl v), some (.inl (s 3049)), none, none, none, none], [.inl r2], n, D, s1, p, c) _
  replace k5 : (s 3049) ≤ (s1 3049) := k5
  replace k6 : (s 3050) ≠ 0 → (s1 3050) ≠ 0 := k6
  replace k7 : (s1 3050) = 0 → (s1 3049) = (s 3049) + 2 ∧ (s1 3049) ≤ (s 3014) := k7
  have b8 : 0 ≤ (s 3049) ∧ (s 3049) ≤ 32769 := hS 3049
  have b9 : 0 ≤ (s1 3049) ∧ (s1 3049) ≤ 32769 := hS1 3049
  have b10 : 0 ≤ (s 3050) ∧ (s 3050) ≤ 8 := hS 3050
  have b11 : 0 ≤ (s1 3050) ∧ (s1 3050) ≤ 8 := hS1 3050
  have b12 : 0 ≤ (s 3014) ∧ (s 3014) ≤ 32768 := hS 3014
  have e13 : s1 3061 = (s 3061) := (f3 3061 (by decide))
  have b14 : 0 ≤ (s1 3061) ∧ (s1 3061) ≤ 3 := hS1 3061
  have b15 : 0 ≤ (s 3061) ∧ (s 3061) ≤ 3 := hS 3061
  have e16 : s1 3059 = (s 3059) := (f3 3059 (by decide))
  have b17 : 0 ≤ (s1 3059) ∧ (s1 3059) ≤ 3 := hS1 3059
  have b18 : 0 ≤ (s 3059) ∧ (s 3059) ≤ 3 := hS 3059
  have e19 : s1 3060 = (s 3060) := (f3 3060 (by decide))
  have b20 : 0 ≤ (s1 3060) ∧ (s1 3060) ≤ 255 := hS1 3060
  have b21 : 0 ≤ (s 3060) ∧ (s 3060) ≤ 255 := hS 3060
  have e22 : s1 3057 = (s 3057) := (f3 3057 (by decide))
  have b23 : 0 ≤ (s1 3057) ∧ (s1 3057) ≤ 65535 := hS1 3057
  have b24 : 0 ≤ (s 3057) ∧ (s 3057) ≤ 65535 := hS 3057
  have e25 : s1 3058 = (s 3058) := (f3 3058 (by decide))
  have b26 : 0 ≤ (s1 3058) ∧ (s1 3058) ≤ 65535 := hS1 3058
  have b27 : 0 ≤ (s 3058) ∧ (s 3058) ≤ 65535 := hS 3058
  refine tt_k 3 (S' := (14, [some (.inr (.inl 30)), some (.inl v), some (.inl (s 3049)), some (.inl r2), none, none, none], [.inl 248, .inl v], n, D, s1, p, c)) rfl ?_
  have K29 : ∀ (j28 : Int) , (0 ≤ j28 ∧ j28 ≤ 65535) → ((v ≠ 248 ∧ v ≠ 218 ∧ j28 = r2) ∨ (v ≠ 248 ∧ v = 218 ∧ j28 = 8) ∨ (v = 248 ∧ j28 = 13)) → tt Zi d 190 (35, [some (.inr (.inl 30)), some (.inl v), some (.inl (s 3049)), some (.inl r2), none, none, none], [.inl j28], n, D, s1, p, c) (fun R H => ∃ (s' : Nat → Int) (c' : Nat → Nat → Int), R = .inl none ∧ H = (n, D, s', p, c') ∧ bS s' ∧ bC D c' ∧ fr s s' [3017, 3018, 3019, 3020, 3021, 3022, 3023, 3024, 3025, 3026, 3035, 3036, 3037, 3038, 3039, 3041, 3042, 3043, 3044, 3045, 3046, 3049, 3050, 3051, 3052, 3053, 3054, 3057, 3058, 3059, 3060, 3061] ∧ frc c c' [36, 37, 38, 39, 40, 41, 42, 43, 44, 45, 46] ∧ (s 3049 ≤ s' 3049) ∧ (s' 3050 = 0 → s' 3061 ≤ s' 3059 ∧ (0 < s' 3059 → (2 ≤ s' 3060 ∧ s' 3060 ≤ 16) ∧ (1 ≤ s' 3057 ∧ s' 3057 ≤ 64) ∧ (1 ≤ s' 3058 ∧ s' 3058 ≤ 64)))) := by
    intro j28 b31 hj30
    refine tt_k 3 (S' := (41, [some (.inr (.inl 30)), some (.inl v), some (.inl (s 3049)), some (.inl r2), some (.inl j28), none, none], [.inl (s1 3050)], n, D, s1, p, c)) rfl ?_
    refine tz_ne (x := (s1 3050)) rfl rfl (by omega) (fun h32 => ?_) (fun h32 => ?_)
    · show tt Zi d 190 (61, [some (.inr (.inl 30)), some (.inl v), some (.inl (s 3049)), some (.inl r2), some (.inl j28), none, none], [], n, D, s1, p, c) _
      refine tt_k 2 (S' := (65, [some (.inr (.inl 30)), some (.inl v), some (.inl (s 3049)), some (.inl r2), some (.inl j28), none, none], [.inl (s1 3050)], n, D, s1, p, c)) rfl ?_
      refine tz_le (x := (s1 3050)) rfl rfl (by omega) (fun h33 => ?_) (fun h33 => ?_)
      · exfalso; omega
      · show tt Zi d 190 (68, [some (.inr (.inl 30)), some (.inl v), some (.inl (s 3049)), some (.inl r2), some (.inl j28), none, none], [], n, D, s1, p, c) _
        exact tt_rtv rfl rfl ⟨s1, c, rfl, rfl, hS1, hC, (fr_tr fr_rf f3 (by decide)), frc_rf, by show s 3049 ≤ (s1 3049); omega, by show (s1 3050) = 0 → (s1 3061) ≤ (s1 3059) ∧ (0 < (s1 3059) → (2 ≤ (s1 3060) ∧ (s1 3060) ≤ 16) ∧ (1 ≤ (s1 3057) ∧ (s1 3057) ≤ 64) ∧ (1 ≤ (s1 3058) ∧ (s1 3058) ≤ 64)); omega⟩
    · show tt Zi d 190 (44, [some (.inr (.inl 30)), some (.inl v), some (.inl (s 3049)), some (.inl r2), some (.inl j28), none, none], [], n, D, s1, p, c) _
      refine tt_k 2 (S' := (46, [some (.inr (.inl 30)), some (.inl v), some (.inl (s 3049)), some (.inl r2), some (.inl j28), none, none], [.inl 2, .inl r2], n, D, s1, p, c)) rfl ?_
      refine tb_lt (x := r2) (y := 2) rfl rfl (by omega) (fun h34 => ?_) (fun h34 => ?_)
      · show tt Zi d 190 (55, [some (.inr (.inl 30)), some (.inl v), some (.inl (s 3049)), some (.inl r2), some (.inl j28), none, none], [], n, D, s1, p, c) _
        refine tt_k 3 (S' := (58, [some (.inr (.inl 30)), some (.inl v), some (.inl (s 3049)), some (.inl r2), some (.inl j28), none, none], [.inl (s 3049), .inl 4, .inr (.inl 30)], n, D, s1, p, c)) rfl ?_
        refine tt_cl (by omega) rfl (k_fail (Zi := Zi) (D := D) (s := s1) (p := p) (c := c) (by omega) hS1 hC 4 (s 3049) (by omega) (by omega)) ?_
        rintro _ _ ⟨s35, rfl, rfl, hS35, f36, k37, k38⟩
        show tt Zi d 190 (61, [some (.inr (.inl 30)), some (.inl v), some (.inl (s 3049)), some (.inl r2), some (.inl j28), none, none], [], n, D, s35, p, c) _
        replace k37 : ((s1 3050) = 0 → (s35 3050) = 4 ∧ (s35 3051) = (s 3049)) := k37
        replace k38 : ((s1 3050) ≠ 0 → (s35 3050) = (s1 3050) ∧ (s35 3051) = (s1 3051)) := k38
        have b39 : 0 ≤ (s35 3050) ∧ (s35 3050) ≤ 8 := hS35 3050
        have b40 : -1 ≤ (s35 3051) ∧ (s35 3051) ≤ 32769 := hS35 3051
        have b41 : -1 ≤ (s1 3051) ∧ (s1 3051) ≤ 32769 := hS1 3051
        have e42 : s35 3049 = (s1 3049) := (f36 3049 (by decide))
        have b43 : 0 ≤ (s35 3049) ∧ (s35 3049) ≤ 32769 := hS35 3049
        have e44 : s35 3061 = (s1 3061) := (f36 3061 (by decide))
        have b45 : 0 ≤ (s35 3061) ∧ (s35 3061) ≤ 3 := hS35 3061
        have e46 : s35 3059 = (s1 3059) := (f36 3059 (by decide))
        have b47 : 0 ≤ (s35 3059) ∧ (s35 3059) ≤ 3 := hS35 3059
        have e48 : s35 3060 = (s1 3060) := (f36 3060 (by decide))
        have b49 : 0 ≤ (s35 3060) ∧ (s35 3060) ≤ 255 := hS35 3060
        have e50 : s35 3057 = (s1 3057) := (f36 3057 (by decide))
        have b51 : 0 ≤ (s35 3057) ∧ (s35 3057) ≤ 65535 := hS35 3057
        have e52 : s35 3058 = (s1 3058) := (f36 3058 (by decide))
        have b53 : 0 ≤ (s35 3058) ∧ (s35 3058) ≤ 65535 := hS35 3058
        refine tt_k 2 (S' := (65, [some (.inr (.inl 30)), some (.inl v), some (.inl (s 3049)), some (.inl r2), some (.inl j28), none, none], [.inl (s35 3050)], n, D, s35, p, c)) rfl ?_
        refine tz_le (x := (s35 3050)) rfl rfl (by omega) (fun h54 => ?_) (fun h54 => ?_)
        · show tt Zi d 190 (69, [some (.inr (.inl 30)), some (.inl v), some (.inl (s 3049)), some (.inl r2), some (.inl j28), none, none], [], n, D, s35, p, c) _
          refine tt_k 2 (S' := (73, [some (.inr (.inl 30)), some (.inl v), some (.inl (s 3049)), some (.inl r2), some (.inl j28), none, none], [.inl 247, .inl v], n, D, s35, p, c)) rfl ?_
          refine tb_ne (x := v) (y := 247) rfl rfl (by omega) (fun h55 => ?_) (fun h55 => ?_)
          · show tt Zi d 190 (85, [some (.inr (.inl 30)), some (.inl v), some (.inl (s 3049)), some (.inl r2), some (.inl j28), none, none], [], n, D, s35, p, c) _
            refine tt_k 2 (S' := (89, [some (.inr (.inl 30)), some (.inl v), some (.inl (s 3049)), some (.inl r2), some (.inl j28), none, none], [.inl 248, .inl v], n, D, s35, p, c)) rfl ?_
            refine tb_ne (x := v) (y := 248) rfl rfl (by omega) (fun h56 => ?_) (fun h56 => ?_)
            · show tt Zi d 190 (99, [some (.inr (.inl 30)), some (.inl v), some (.inl (s 3049)), some (.inl r2), some (.inl j28), none, none], [], n, D, s35, p, c) _
              refine tt_k 2 (S' := (103, [some (.inr (.inl 30)), some (.inl v), some (.inl (s 3049)), some (.inl r2), some (.inl j28), none, none], [.inl 218, .inl v], n, D, s35, p, c)) rfl ?_
              refine tb_ne (x := v) (y := 218) rfl rfl (by omega) (fun h57 => ?_) (fun h57 => ?_)
              · show tt Zi d 190 (113, [some (.inr (.inl 30)), some (.inl v), some (.inl (s 3049)), some (.inl r2), some (.inl j28), none, none], [], n, D, s35, p, c) _
                refine tt_k 2 (S' := (116, [some (.inr (.inl 30)), some (.inl v), some (.inl (s 3049)), some (.inl r2), some (.inl j28), some (.inl 2), none], [], n, D, s35, p, c)) rfl ?_
                refine k_section_L116 (Zi := Zi) (D := D) (s := s35) (p := p) (c := c) hd hS35 hC  r2 (by omega) ?_ _ 2 (none) s35 (by omega) hS35 fr_rf (Int.le_refl _) (fun h => h) (show 2 ≤ r2 by omega) (Nat.lt_succ_self _)
                intro x58 x59 s60 b61 hS60 f62 i63 i64 i65 hx66
                show tt Zi d 190 (141, [some (.inr (.inl 30)), some (.inl v), some (.inl (s 3049)), some (.inl r2), some (.inl j28), some (.inl x58), x59], [], n, D, s60, p, c) _
                replace i63 : (s35 3049) ≤ (s60 3049) := i63
                replace i64 : (s35 3050) ≠ 0 → (s60 3050) ≠ 0 := i64
                replace i65 : x58 ≤ r2 := i65
                have e67 : s60 3061 = (s35 3061) := (f62 3061 (by decide))
                have b68 : 0 ≤ (s60 3061) ∧ (s60 3061) ≤ 3 := hS60 3061
                have e69 : s60 3059 = (s35 3059) := (f62 3059 (by decide))
                have b70 : 0 ≤ (s60 3059) ∧ (s60 3059) ≤ 3 := hS60 3059
                have e71 : s60 3060 = (s35 3060) := (f62 3060 (by decide))
                have b72 : 0 ≤ (s60 3060) ∧ (s60 3060) ≤ 255 := hS60 3060
                have e73 : s60 3057 = (s35 3057) := (f62 3057 (by decide))
                have b74 : 0 ≤ (s60 3057) ∧ (s60 3057) ≤ 65535 := hS60 3057
                have e75 : s60 3058 = (s35 3058) := (f62 3058 (by decide))
                have b76 : 0 ≤ (s60 3058) ∧ (s60 3058) ≤ 65535 := hS60 3058
                exact tt_rtv rfl rfl ⟨s60, c, rfl, rfl, hS60, hC, (fr_tr (fr_tr (fr_tr fr_rf f3 (by decide)) f36 (by decide)) f62 (by decide)), frc_rf, by show s 3049 ≤ (s60 3049); omega, by show (s60 3050) = 0 → (s60 3061) ≤ (s60 3059) ∧ (0 < (s60 3059) → (2 ≤ (s60 3060) ∧ (s60 3060) ≤ 16) ∧ (1 ≤ (s60 3057) ∧ (s60 3057) ≤ 64) ∧ (1 ≤ (s60 3058) ∧ (s60 3058) ≤ 64)); omega⟩
              · show tt Zi d 190 (106, [some (.inr (.inl 30)), some (.inl v), some (.inl (s 3049)), some (.inl r2), some (.inl j28), none, none], [], n, D, s35, p, c) _
                refine tt_k 1 (S' := (107, [some (.inr (.inl 30)), some (.inl v), some (.inl (s 3049)), some (.inl r2), some (.inl j28), none, none], [.inr (.inl 30)], n, D, s35, p, c)) rfl ?_
                refine tt_cl (by omega) rfl (k_readScan (Zi := Zi) (D := D) (s := s35) (p := p) (c := c) (by omega) hS35 hC (show (s35 3050) = 0 by omega) (show (2 ≤ (s35 3060) ∧ (s35 3060) ≤ 16) ∧ (1 ≤ (s35 3057) ∧ (s35 3057) ≤ 64) ∧ (1 ≤ (s35 3058) ∧ (s35 3058) ≤ 64) by omega) (show (s35 3061) < (s35 3059) by omega)) ?_
                rintro _ _ ⟨s77, c78, rfl, rfl, hS77, hC78, f79, g80, k81, k82⟩
                show tt Zi d 190 (110, [some (.inr (.inl 30)), some (.inl v), some (.inl (s 3049)), some (.inl r2), some (.inl j28), none, none], [], n, D, s77, p, c78) _
                replace k81 : (s35 3049) ≤ (s77 3049) := k81
                replace k82 : (s77 3061) ≤ (s35 3061) + 1 := k82
                have b83 : 0 ≤ (s77 3049) ∧ (s77 3049) ≤ 32769 := hS77 3049
                have b84 : 0 ≤ (s77 3061) ∧ (s77 3061) ≤ 3 := hS77 3061
                have e85 : s77 3059 = (s35 3059) := (f79 3059 (by decide))
                have b86 : 0 ≤ (s77 3059) ∧ (s77 3059) ≤ 3 := hS77 3059
                have e87 : s77 3060 = (s35 3060) := (f79 3060 (by decide))
                have b88 : 0 ≤ (s77 3060) ∧ (s77 3060) ≤ 255 := hS77 3060
                have e89 : s77 3057 = (s35 3057) := (f79 3057 (by decide))
                have b90 : 0 ≤ (s77 3057) ∧ (s77 3057) ≤ 65535 := hS77 3057
                have e91 : s77 3058 = (s35 3058) := (f79 3058 (by decide))
                have b92 : 0 ≤ (s77 3058) ∧ (s77 3058) ≤ 65535 := hS77 3058
                refine tt_k 1 (S' := (141, [some (.inr (.inl 30)), some (.inl v), some (.inl (s 3049)), some (.inl r2), some (.inl j28), none, none], [], n, D, s77, p, c78)) rfl ?_
                exact tt_rtv rfl rfl ⟨s77, c78, rfl, rfl, hS77, hC78, (fr_tr (fr_tr (fr_tr fr_rf f3 (by decide)) f36 (by decide)) f79 (by decide)), (frc_tr frc_rf g80 (by decide)), by show s 3049 ≤ (s77 3049); omega, by show (s77 3050) = 0 → (s77 3061) ≤ (s77 3059) ∧ (0 < (s77 3059) → (2 ≤ (s77 3060) ∧ (s77 3060) ≤ 16) ∧ (1 ≤ (s77 3057) ∧ (s77 3057) ≤ 64) ∧ (1 ≤ (s77 3058) ∧ (s77 3058) ≤ 64)); omega⟩
            · show tt Zi d 190 (92, [some (.inr (.inl 30)), some (.inl v), some (.inl (s 3049)), some (.inl r2), some (.inl j28), none, none], [], n, D, s35, p, c) _
              refine tt_k 1 (S' := (93, [some (.inr (.inl 30)), some (.inl v), some (.inl (s 3049)), some (.inl r2), some (.inl j28), none, none], [.inr (.inl 30)], n, D, s35, p, c)) rfl ?_
              refine tt_cl (by omega) rfl (k_readMeasures (Zi := Zi) (D := D) (s := s35) (p := p) (c := c) (by omega) hS35 hC ) ?_
              rintro _ _ ⟨s93, c94, rfl, rfl, hS93, hC94, f95, g96, k97, k98⟩
              show tt Zi d 190 (96, [some (.inr (.inl 30)), some (.inl v), some (.inl (s 3049)), some (.inl r2), some (.inl j28), none, none], [], n, D, s93, p, c94) _
              replace k97 : (s35 3049) ≤ (s93 3049) := k97
              replace k98 : (s35 3050) ≠ 0 → (s93 3050) ≠ 0 := k98
              have b99 : 0 ≤ (s93 3049) ∧ (s93 3049) ≤ 32769 := hS93 3049
              have b100 : 0 ≤ (s93 3050) ∧ (s93 3050) ≤ 8 := hS93 3050
              have e101 : s93 3061 = (s35 3061) := (f95 3061 (by decide))
              have b102 : 0 ≤ (s93 3061) ∧ (s93 3061) ≤ 3 := hS93 3061
              have e103 : s93 3059 = (s35 3059) := (f95 3059 (by decide))
              have b104 : 0 ≤ (s93 3059) ∧ (s93 3059) ≤ 3 := hS93 3059
              have e105 : s93 3060 = (s35 3060) := (f95 3060 (by decide))
              have b106 : 0 ≤ (s93 3060) ∧ (s93 3060) ≤ 255 := hS93 3060
              have e107 : s93 3057 = (s35 3057) := (f95 3057 (by decide))
              have b108 : 0 ≤ (s93 3057) ∧ (s93 3057) ≤ 65535 := hS93 3057
              have e109 : s93 3058 = (s35 3058) := (f95 3058 (by decide))
              have b110 : 0 ≤ (s93 3058) ∧ (s93 3058) ≤ 65535 := hS93 3058
              refine tt_k 1 (S' := (141, [some (.inr (.inl 30)), some (.inl v), some (.inl (s 3049)), some (.inl r2), some (.inl j28), none, none], [], n, D, s93, p, c94)) rfl ?_
              exact tt_rtv rfl rfl ⟨s93, c94, rfl, rfl, hS93, hC94, (fr_tr (fr_tr (fr_tr fr_rf f3 (by decide)) f36 (by decide)) f95 (by decide)), (frc_tr frc_rf g96 (by decide)), by show s 3049 ≤ (s93 3049); omega, by show (s93 3050) = 0 → (s93 3061) ≤ (s93 3059) ∧ (0 < (s93 3059) → (2 ≤ (s93 3060) ∧ (s93 3060) ≤ 16) ∧ (1 ≤ (s93 3057) ∧ (s93 3057) ≤ 64) ∧ (1 ≤ (s93 3058) ∧ (s93 3058) ≤ 64)); omega⟩
          · show tt Zi d 190 (76, [some (.inr (.inl 30)), some (.inl v), some (.inl (s 3049)), some (.inl r2), some (.inl j28), none, none], [], n, D, s35, p, c) _
            refine tt_k 3 (S' := (79, [some (.inr (.inl 30)), some (.inl v), some (.inl (s 3049)), some (.inl r2), some (.inl j28), none, none], [.inl r2, .inl (s 3049), .inr (.inl 30)], n, D, s35, p, c)) rfl ?_
            refine tt_cl (by omega) rfl (k_readFrame (Zi := Zi) (D := D) (s := s35) (p := p) (c := c) (by omega) hS35 hC (s 3049) r2 (by omega) (by omega) (show (s35 3050) = 0 by omega) (show 1 ≤ (s35 3049) by omega)) ?_
            rintro _ _ ⟨s111, c112, rfl, rfl, hS111, hC112, f113, g114, k115, k116⟩
            show tt Zi d 190 (82, [some (.inr (.inl 30)), some (.inl v), some (.inl (s 3049)), some (.inl r2), some (.inl j28), none, none], [], n, D, s111, p, c112) _
            replace k115 : (s35 3049) ≤ (s111 3049) := k115
            replace k116 : (s111 3050) = 0 → (2 ≤ (s111 3060) ∧ (s111 3060) ≤ 16) ∧ (1 ≤ (s111 3057) ∧ (s111 3057) ≤ 64) ∧ (1 ≤ (s111 3058) ∧ (s111 3058) ≤ 64) := k116
            have b117 : 0 ≤ (s111 3049) ∧ (s111 3049) ≤ 32769 := hS111 3049
            have b118 : 0 ≤ (s111 3050) ∧ (s111 3050) ≤ 8 := hS111 3050
            have b119 : 0 ≤ (s111 3060) ∧ (s111 3060) ≤ 255 := hS111 3060
            have b120 : 0 ≤ (s111 3057) ∧ (s111 3057) ≤ 65535 := hS111 3057
            have b121 : 0 ≤ (s111 3058) ∧ (s111 3058) ≤ 65535 := hS111 3058
            have e122 : s111 3061 = (s35 3061) := (f113 3061 (by decide))
            have b123 : 0 ≤ (s111 3061) ∧ (s111 3061) ≤ 3 := hS111 3061
            refine tt_k 1 (S' := (141, [some (.inr (.inl 30)), some (.inl v), some (.inl (s 3049)), some (.inl r2), some (.inl j28), none, none], [], n, D, s111, p, c112)) rfl ?_
            have b124 : 0 ≤ (s111 3059) ∧ (s111 3059) ≤ 3 := hS111 3059
            exact tt_rtv rfl rfl ⟨s111, c112, rfl, rfl, hS111, hC112, (fr_tr (fr_tr (fr_tr fr_rf f3 (by decide)) f36 (by decide)) f113 (by decide)), (frc_tr frc_rf g114 (by decide)), by show s 3049 ≤ (s111 3049); omega, by show (s111 3050) = 0 → (s111 3061) ≤ (s111 3059) ∧ (0 < (s111 3059) → (2 ≤ (s111 3060) ∧ (s111 3060) ≤ 16) ∧ (1 ≤ (s111 3057) ∧ (s111 3057) ≤ 64) ∧ (1 ≤ (s111 3058) ∧ (s111 3058) ≤ 64)); omega⟩
        · show tt Zi d 190 (68, [some (.inr (.inl 30)), some (.inl v), some (.inl (s 3049)), some (.inl r2), some (.inl j28), none, none], [], n, D, s35, p, c) _
          exact tt_rtv rfl rfl ⟨s35, c, rfl, rfl, hS35, hC, (fr_tr (fr_tr fr_rf f3 (by decide)) f36 (by decide)), frc_rf, by show s 3049 ≤ (s35 3049); omega, by show (s35 3050) = 0 → (s35 3061) ≤ (s35 3059) ∧ (0 < (s35 3059) → (2 ≤ (s35 3060) ∧ (s35 3060) ≤ 16) ∧ (1 ≤ (s35 3057) ∧ (s35 3057) ≤ 64) ∧ (1 ≤ (s35 3058) ∧ (s35 3058) ≤ 64)); omega⟩
      · show tt Zi d 190 (49, [some (.inr (.inl 30)), some (.inl v), some (.inl (s 3049)), some (.inl r2), some (.inl j28), none, none], [], n, D, s1, p, c) _
        refine tt_k 2 (S' := (52, [some (.inr (.inl 30)), some (.inl v), some (.inl (s 3049)), some (.inl r2), some (.inl j28), none, none], [.inl j28, .inl r2], n, D, s1, p, c)) rfl ?_
        refine tb_eq (x := r2) (y := j28) rfl rfl (by omega) (fun h125 => ?_) (fun h125 => ?_)
        · show tt Zi d 190 (61, [some (.inr (.inl 30)), some (.inl v), some (.inl (s 3049)), some (.inl r2), some (.inl j28), none, none], [], n, D, s1, p, c) _
          refine tt_k 2 (S' := (65, [some (.inr (.inl 30)), some (.inl v), some (.inl (s 3049)), some (.inl r2), some (.inl j28), none, none], [.inl (s1 3050)], n, D, s1, p, c)) rfl ?_
          refine tz_le (x := (s1 3050)) rfl rfl (by omega) (fun h126 => ?_) (fun h126 => ?_)
          · show tt Zi d 190 (69, [some (.inr (.inl 30)), some (.inl v), some (.inl (s 3049)), some (.inl r2), some (.inl j28), none, none], [], n, D, s1, p, c) _
            refine tt_k 2 (S' := (73, [some (.inr (.inl 30)), some (.inl v), some (.inl (s 3049)), some (.inl r2), some (.inl j28), none, none], [.inl 247, .inl v], n, D, s1, p, c)) rfl ?_
            refine tb_ne (x := v) (y := 247) rfl rfl (by omega) (fun h127 => ?_) (fun h127 => ?_)
            · show tt Zi d 190 (85, [some (.inr (.inl 30)), some (.inl v), some (.inl (s 3049)), some (.inl r2), some (.inl j28), none, none], [], n, D, s1, p, c) _
              refine tt_k 2 (S' := (89, [some (.inr (.inl 30)), some (.inl v), some (.inl (s 3049)), some (.inl r2), some (.inl j28), none, none], [.inl 248, .inl v], n, D, s1, p, c)) rfl ?_
              refine tb_ne (x := v) (y := 248) rfl rfl (by omega) (fun h128 => ?_) (fun h128 => ?_)
              · show tt Zi d 190 (99, [some (.inr (.inl 30)), some (.inl v), some (.inl (s 3049)), some (.inl r2), some (.inl j28), none, none], [], n, D, s1, p, c) _
                refine tt_k 2 (S' := (103, [some (.inr (.inl 30)), some (.inl v), some (.inl (s 3049)), some (.inl r2), some (.inl j28), none, none], [.inl 218, .inl v], n, D, s1, p, c)) rfl ?_
                refine tb_ne (x := v) (y := 218) rfl rfl (by omega) (fun h129 => ?_) (fun h129 => ?_)
                · show tt Zi d 190 (113, [some (.inr (.inl 30)), some (.inl v), some (.inl (s 3049)), some (.inl r2), some (.inl j28), none, none], [], n, D, s1, p, c) _
                  refine tt_k 2 (S' := (116, [some (.inr (.inl 30)), some (.inl v), some (.inl (s 3049)), some (.inl r2), some (.inl j28), some (.inl 2), none], [], n, D, s1, p, c)) rfl ?_
                  refine k_section_L116 (Zi := Zi) (D := D) (s := s1) (p := p) (c := c) hd hS1 hC  r2 (by omega) ?_ _ 2 (none) s1 (by omega) hS1 fr_rf (Int.le_refl _) (fun h => h) (show 2 ≤ r2 by omega) (Nat.lt_succ_self _)
                  intro x130 x131 s132 b133 hS132 f134 i135 i136 i137 hx138
                  show tt Zi d 190 (141, [some (.inr (.inl 30)), some (.inl v), some (.inl (s 3049)), some (.inl r2), some (.inl j28), some (.inl x130), x131], [], n, D, s132, p, c) _
                  replace i135 : (s1 3049) ≤ (s132 3049) := i135
                  replace i136 : (s1 3050) ≠ 0 → (s132 3050) ≠ 0 := i136
                  replace i137 : x130 ≤ r2 := i137
                  have e139 : s132 3061 = (s1 3061) := (f134 3061 (by decide))
                  have b140 : 0 ≤ (s132 3061) ∧ (s132 3061) ≤ 3 := hS132 3061
                  have e141 : s132 3059 = (s1 3059) := (f134 3059 (by decide))
                  have b142 : 0 ≤ (s132 3059) ∧ (s132 3059) ≤ 3 := hS132 3059
                  have e143 : s132 3060 = (s1 3060) := (f134 3060 (by decide))
                  have b144 : 0 ≤ (s132 3060) ∧ (s132 3060) ≤ 255 := hS132 3060
                  have e145 : s132 3057 = (s1 3057) := (f134 3057 (by decide))
                  have b146 : 0 ≤ (s132 3057) ∧ (s132 3057) ≤ 65535 := hS132 3057
                  have e147 : s132 3058 = (s1 3058) := (f134 3058 (by decide))
                  have b148 : 0 ≤ (s132 3058) ∧ (s132 3058) ≤ 65535 := hS132 3058
                  exact tt_rtv rfl rfl ⟨s132, c, rfl, rfl, hS132, hC, (fr_tr (fr_tr fr_rf f3 (by decide)) f134 (by decide)), frc_rf, by show s 3049 ≤ (s132 3049); omega, by show (s132 3050) = 0 → (s132 3061) ≤ (s132 3059) ∧ (0 < (s132 3059) → (2 ≤ (s132 3060) ∧ (s132 3060) ≤ 16) ∧ (1 ≤ (s132 3057) ∧ (s132 3057) ≤ 64) ∧ (1 ≤ (s132 3058) ∧ (s132 3058) ≤ 64)); omega⟩
                · show tt Zi d 190 (106, [some (.inr (.inl 30)), some (.inl v), some (.inl (s 3049)), some (.inl r2), some (.inl j28), none, none], [], n, D, s1, p, c) _
                  refine tt_k 1 (S' := (107, [some (.inr (.inl 30)), some (.inl v), some (.inl (s 3049)), some (.inl r2), some (.inl j28), none, none], [.inr (.inl 30)], n, D, s1, p, c)) rfl ?_
                  refine tt_cl (by omega) rfl (k_readScan (Zi := Zi) (D := D) (s := s1) (p := p) (c := c) (by omega) hS1 hC (show (s1 3050) = 0 by omega) (show (2 ≤ (s1 3060) ∧ (s1 3060) ≤ 16) ∧ (1 ≤ (s1 3057) ∧ (s1 3057) ≤ 64) ∧ (1 ≤ (s1 3058) ∧ (s1 3058) ≤ 64) by omega) (show (s1 3061) < (s1 3059) by omega)) ?_
                  rintro _ _ ⟨s149, c150, rfl, rfl, hS149, hC150, f151, g152, k153, k154⟩
                  show tt Zi d 190 (110, [some (.inr (.inl 30)), some (.inl v), some (.inl (s 3049)), some (.inl r2), some (.inl j28), none, none], [], n, D, s149, p, c150) _
                  replace k153 : (s1 3049) ≤ (s149 3049) := k153
                  replace k154 : (s149 3061) ≤ (s1 3061) + 1 := k154
                  have b155 : 0 ≤ (s149 3049) ∧ (s149 3049) ≤ 32769 := hS149 3049
                  have b156 : 0 ≤ (s149 3061) ∧ (s149 3061) ≤ 3 := hS149 3061
                  have e157 : s149 3059 = (s1 3059) := (f151 3059 (by decide))
                  have b158 : 0 ≤ (s149 3059) ∧ (s149 3059) ≤ 3 := hS149 3059
                  have e159 : s149 3060 = (s1 3060) := (f151 3060 (by decide))
                  have b160 : 0 ≤ (s149 3060) ∧ (s149 3060) ≤ 255 := hS149 3060
                  have e161 : s149 3057 = (s1 3057) := (f151 3057 (by decide))
                  have b162 : 0 ≤ (s149 3057) ∧ (s149 3057) ≤ 65535 := hS149 3057
                  have e163 : s149 3058 = (s1 3058) := (f151 3058 (by decide))
                  have b164 : 0 ≤ (s149 3058) ∧ (s149 3058) ≤ 65535 := hS149 3058
                  refine tt_k 1 (S' := (141, [some (.inr (.inl 30)), some (.inl v), some (.inl (s 3049)), some (.inl r2), some (.inl j28), none, none], [], n, D, s149, p, c150)) rfl ?_
                  exact tt_rtv rfl rfl ⟨s149, c150, rfl, rfl, hS149, hC150, (fr_tr (fr_tr fr_rf f3 (by decide)) f151 (by decide)), (frc_tr frc_rf g152 (by decide)), by show s 3049 ≤ (s149 3049); omega, by show (s149 3050) = 0 → (s149 3061) ≤ (s149 3059) ∧ (0 < (s149 3059) → (2 ≤ (s149 3060) ∧ (s149 3060) ≤ 16) ∧ (1 ≤ (s149 3057) ∧ (s149 3057) ≤ 64) ∧ (1 ≤ (s149 3058) ∧ (s149 3058) ≤ 64)); omega⟩
              · show tt Zi d 190 (92, [some (.inr (.inl 30)), some (.inl v), some (.inl (s 3049)), some (.inl r2), some (.inl j28), none, none], [], n, D, s1, p, c) _
                refine tt_k 1 (S' := (93, [some (.inr (.inl 30)), some (.inl v), some (.inl (s 3049)), some (.inl r2), some (.inl j28), none, none], [.inr (.inl 30)], n, D, s1, p, c)) rfl ?_
                refine tt_cl (by omega) rfl (k_readMeasures (Zi := Zi) (D := D) (s := s1) (p := p) (c := c) (by omega) hS1 hC ) ?_
                rintro _ _ ⟨s165, c166, rfl, rfl, hS165, hC166, f167, g168, k169, k170⟩
                show tt Zi d 190 (96, [some (.inr (.inl 30)), some (.inl v), some (.inl (s 3049)), some (.inl r2), some (.inl j28), none, none], [], n, D, s165, p, c166) _
                replace k169 : (s1 3049) ≤ (s165 3049) := k169
                replace k170 : (s1 3050) ≠ 0 → (s165 3050) ≠ 0 := k170
                have b171 : 0 ≤ (s165 3049) ∧ (s165 3049) ≤ 32769 := hS165 3049
                have b172 : 0 ≤ (s165 3050) ∧ (s165 3050) ≤ 8 := hS165 3050
                have e173 : s165 3061 = (s1 3061) := (f167 3061 (by decide))
                have b174 : 0 ≤ (s165 3061) ∧ (s165 3061) ≤ 3 := hS165 3061
                have e175 : s165 3059 = (s1 3059) := (f167 3059 (by decide))
                have b176 : 0 ≤ (s165 3059) ∧ (s165 3059) ≤ 3 := hS165 3059
                have e177 : s165 3060 = (s1 3060) := (f167 3060 (by decide))
                have b178 : 0 ≤ (s165 3060) ∧ (s165 3060) ≤ 255 := hS165 3060
                have e179 : s165 3057 = (s1 3057) := (f167 3057 (by decide))
                have b180 : 0 ≤ (s165 3057) ∧ (s165 3057) ≤ 65535 := hS165 3057
                have e181 : s165 3058 = (s1 3058) := (f167 3058 (by decide))
                have b182 : 0 ≤ (s165 3058) ∧ (s165 3058) ≤ 65535 := hS165 3058
                refine tt_k 1 (S' := (141, [some (.inr (.inl 30)), some (.inl v), some (.inl (s 3049)), some (.inl r2), some (.inl j28), none, none], [], n, D, s165, p, c166)) rfl ?_
                exact tt_rtv rfl rfl ⟨s165, c166, rfl, rfl, hS165, hC166, (fr_tr (fr_tr fr_rf f3 (by decide)) f167 (by decide)), (frc_tr frc_rf g168 (by decide)), by show s 3049 ≤ (s165 3049); omega, by show (s165 3050) = 0 → (s165 3061) ≤ (s165 3059) ∧ (0 < (s165 3059) → (2 ≤ (s165 3060) ∧ (s165 3060) ≤ 16) ∧ (1 ≤ (s165 3057) ∧ (s165 3057) ≤ 64) ∧ (1 ≤ (s165 3058) ∧ (s165 3058) ≤ 64)); omega⟩
            · show tt Zi d 190 (76, [some (.inr (.inl 30)), some (.inl v), some (.inl (s 3049)), some (.inl r2), some (.inl j28), none, none], [], n, D, s1, p, c) _
              refine tt_k 3 (S' := (79, [some (.inr (.inl 30)), some (.inl v), some (.inl (s 3049)), some (.inl r2), some (.inl j28), none, none], [.inl r2, .inl (s 3049), .inr (.inl 30)], n, D, s1, p, c)) rfl ?_
              refine tt_cl (by omega) rfl (k_readFrame (Zi := Zi) (D := D) (s := s1) (p := p) (c := c) (by omega) hS1 hC (s 3049) r2 (by omega) (by omega) (show (s1 3050) = 0 by omega) (show 1 ≤ (s1 3049) by omega)) ?_
              rintro _ _ ⟨s183, c184, rfl, rfl, hS183, hC184, f185, g186, k187, k188⟩
              show tt Zi d 190 (82, [some (.inr (.inl 30)), some (.inl v), some (.inl (s 3049)), some (.inl r2), some (.inl j28), none, none], [], n, D, s183, p, c184) _
              replace k187 : (s1 3049) ≤ (s183 3049) := k187
              replace k188 : (s183 3050) = 0 → (2 ≤ (s183 3060) ∧ (s183 3060) ≤ 16) ∧ (1 ≤ (s183 3057) ∧ (s183 3057) ≤ 64) ∧ (1 ≤ (s183 3058) ∧ (s183 3058) ≤ 64) := k188
              have b189 : 0 ≤ (s183 3049) ∧ (s183 3049) ≤ 32769 := hS183 3049
              have b190 : 0 ≤ (s183 3050) ∧ (s183 3050) ≤ 8 := hS183 3050
              have b191 : 0 ≤ (s183 3060) ∧ (s183 3060) ≤ 255 := hS183 3060
              have b192 : 0 ≤ (s183 3057) ∧ (s183 3057) ≤ 65535 := hS183 3057
              have b193 : 0 ≤ (s183 3058) ∧ (s183 3058) ≤ 65535 := hS183 3058
              have e194 : s183 3061 = (s1 3061) := (f185 3061 (by decide))
              have b195 : 0 ≤ (s183 3061) ∧ (s183 3061) ≤ 3 := hS183 3061
              refine tt_k 1 (S' := (141, [some (.inr (.inl 30)), some (.inl v), some (.inl (s 3049)), some (.inl r2), some (.inl j28), none, none], [], n, D, s183, p, c184)) rfl ?_
              have b196 : 0 ≤ (s183 3059) ∧ (s183 3059) ≤ 3 := hS183 3059
              exact tt_rtv rfl rfl ⟨s183, c184, rfl, rfl, hS183, hC184, (fr_tr (fr_tr fr_rf f3 (by decide)) f185 (by decide)), (frc_tr frc_rf g186 (by decide)), by show s 3049 ≤ (s183 3049); omega, by show (s183 3050) = 0 → (s183 3061) ≤ (s183 3059) ∧ (0 < (s183 3059) → (2 ≤ (s183 3060) ∧ (s183 3060) ≤ 16) ∧ (1 ≤ (s183 3057) ∧ (s183 3057) ≤ 64) ∧ (1 ≤ (s183 3058) ∧ (s183 3058) ≤ 64)); omega⟩
          · exfalso; omega
        · show tt Zi d 190 (55, [some (.inr (.inl 30)), some (.inl v), some (.inl (s 3049)), some (.inl r2), some (.inl j28), none, none], [], n, D, s1, p, c) _
          refine tt_k 3 (S' := (58, [some (.inr (.inl 30)), some (.inl v), some (.inl (s 3049)), some (.inl r2), some (.inl j28), none, none], [.inl (s 3049), .inl 4, .inr (.inl 30)], n, D, s1, p, c)) rfl ?_
          refine tt_cl (by omega) rfl (k_fail (Zi := Zi) (D := D) (s := s1) (p := p) (c := c) (by omega) hS1 hC 4 (s 3049) (by omega) (by omega)) ?_
          rintro _ _ ⟨s197, rfl, rfl, hS197, f198, k199, k200⟩
          show tt Zi d 190 (61, [some (.inr (.inl 30)), some (.inl v), some (.inl (s 3049)), some (.inl r2), some (.inl j28), none, none], [], n, D, s197, p, c) _
          replace k199 : ((s1 3050) = 0 → (s197 3050) = 4 ∧ (s197 3051) = (s 3049)) := k199
          replace k200 : ((s1 3050) ≠ 0 → (s197 3050) = (s1 3050) ∧ (s197 3051) = (s1 3051)) := k200
          have b201 : 0 ≤ (s197 3050) ∧ (s197 3050) ≤ 8 := hS197 3050
          have b202 : -1 ≤ (s197 3051) ∧ (s197 3051) ≤ 32769 := hS197 3051
          have b203 : -1 ≤ (s1 3051) ∧ (s1 3051) ≤ 32769 := hS1 3051
          have e204 : s197 3049 = (s1 3049) := (f198 3049 (by decide))
          have b205 : 0 ≤ (s197 3049) ∧ (s197 3049) ≤ 32769 := hS197 3049
          have e206 : s197 3061 = (s1 3061) := (f198 3061 (by decide))
          have b207 : 0 ≤ (s197 3061) ∧ (s197 3061) ≤ 3 := hS197 3061
          have e208 : s197 3059 = (s1 3059) := (f198 3059 (by decide))
          have b209 : 0 ≤ (s197 3059) ∧ (s197 3059) ≤ 3 := hS197 3059
          have e210 : s197 3060 = (s1 3060) := (f198 3060 (by decide))
          have b211 : 0 ≤ (s197 3060) ∧ (s197 3060) ≤ 255 := hS197 3060
          have e212 : s197 3057 = (s1 3057) := (f198 3057 (by decide))
          have b213 : 0 ≤ (s197 3057) ∧ (s197 3057) ≤ 65535 := hS197 3057
          have e214 : s197 3058 = (s1 3058) := (f198 3058 (by decide))
          have b215 : 0 ≤ (s197 3058) ∧ (s197 3058) ≤ 65535 := hS197 3058
          refine tt_k 2 (S' := (65, [some (.inr (.inl 30)), some (.inl v), some (.inl (s 3049)), some (.inl r2), some (.inl j28), none, none], [.inl (s197 3050)], n, D, s197, p, c)) rfl ?_
          refine tz_le (x := (s197 3050)) rfl rfl (by omega) (fun h216 => ?_) (fun h216 => ?_)
          · show tt Zi d 190 (69, [some (.inr (.inl 30)), some (.inl v), some (.inl (s 3049)), some (.inl r2), some (.inl j28), none, none], [], n, D, s197, p, c) _
            refine tt_k 2 (S' := (73, [some (.inr (.inl 30)), some (.inl v), some (.inl (s 3049)), some (.inl r2), some (.inl j28), none, none], [.inl 247, .inl v], n, D, s197, p, c)) rfl ?_
            refine tb_ne (x := v) (y := 247) rfl rfl (by omega) (fun h217 => ?_) (fun h217 => ?_)
            · show tt Zi d 190 (85, [some (.inr (.inl 30)), some (.inl v), some (.inl (s 3049)), some (.inl r2), some (.inl j28), none, none], [], n, D, s197, p, c) _
              refine tt_k 2 (S' := (89, [some (.inr (.inl 30)), some (.inl v), some (.inl (s 3049)), some (.inl r2), some (.inl j28), none, none], [.inl 248, .inl v], n, D, s197, p, c)) rfl ?_
              refine tb_ne (x := v) (y := 248) rfl rfl (by omega) (fun h218 => ?_) (fun h218 => ?_)
              · show tt Zi d 190 (99, [some (.inr (.inl 30)), some (.inl v), some (.inl (s 3049)), some (.inl r2), some (.inl j28), none, none], [], n, D, s197, p, c) _
                refine tt_k 2 (S' := (103, [some (.inr (.inl 30)), some (.inl v), some (.inl (s 3049)), some (.inl r2), some (.inl j28), none, none], [.inl 218, .inl v], n, D, s197, p, c)) rfl ?_
                refine tb_ne (x := v) (y := 218) rfl rfl (by omega) (fun h219 => ?_) (fun h219 => ?_)
                · show tt Zi d 190 (113, [some (.inr (.inl 30)), some (.inl v), some (.inl (s 3049)), some (.inl r2), some (.inl j28), none, none], [], n, D, s197, p, c) _
                  refine tt_k 2 (S' := (116, [some (.inr (.inl 30)), some (.inl v), some (.inl (s 3049)), some (.inl r2), some (.inl j28), some (.inl 2), none], [], n, D, s197, p, c)) rfl ?_
                  refine k_section_L116 (Zi := Zi) (D := D) (s := s197) (p := p) (c := c) hd hS197 hC  r2 (by omega) ?_ _ 2 (none) s197 (by omega) hS197 fr_rf (Int.le_refl _) (fun h => h) (show 2 ≤ r2 by omega) (Nat.lt_succ_self _)
                  intro x220 x221 s222 b223 hS222 f224 i225 i226 i227 hx228
                  show tt Zi d 190 (141, [some (.inr (.inl 30)), some (.inl v), some (.inl (s 3049)), some (.inl r2), some (.inl j28), some (.inl x220), x221], [], n, D, s222, p, c) _
                  replace i225 : (s197 3049) ≤ (s222 3049) := i225
                  replace i226 : (s197 3050) ≠ 0 → (s222 3050) ≠ 0 := i226
                  replace i227 : x220 ≤ r2 := i227
                  have e229 : s222 3061 = (s197 3061) := (f224 3061 (by decide))
                  have b230 : 0 ≤ (s222 3061) ∧ (s222 3061) ≤ 3 := hS222 3061
                  have e231 : s222 3059 = (s197 3059) := (f224 3059 (by decide))
                  have b232 : 0 ≤ (s222 3059) ∧ (s222 3059) ≤ 3 := hS222 3059
                  have e233 : s222 3060 = (s197 3060) := (f224 3060 (by decide))
                  have b234 : 0 ≤ (s222 3060) ∧ (s222 3060) ≤ 255 := hS222 3060
                  have e235 : s222 3057 = (s197 3057) := (f224 3057 (by decide))
                  have b236 : 0 ≤ (s222 3057) ∧ (s222 3057) ≤ 65535 := hS222 3057
                  have e237 : s222 3058 = (s197 3058) := (f224 3058 (by decide))
                  have b238 : 0 ≤ (s222 3058) ∧ (s222 3058) ≤ 65535 := hS222 3058
                  exact tt_rtv rfl rfl ⟨s222, c, rfl, rfl, hS222, hC, (fr_tr (fr_tr (fr_tr fr_rf f3 (by decide)) f198 (by decide)) f224 (by decide)), frc_rf, by show s 3049 ≤ (s222 3049); omega, by show (s222 3050) = 0 → (s222 3061) ≤ (s222 3059) ∧ (0 < (s222 3059) → (2 ≤ (s222 3060) ∧ (s222 3060) ≤ 16) ∧ (1 ≤ (s222 3057) ∧ (s222 3057) ≤ 64) ∧ (1 ≤ (s222 3058) ∧ (s222 3058) ≤ 64)); omega⟩
                · show tt Zi d 190 (106, [some (.inr (.inl 30)), some (.inl v), some (.inl (s 3049)), some (.inl r2), some (.inl j28), none, none], [], n, D, s197, p, c) _
                  refine tt_k 1 (S' := (107, [some (.inr (.inl 30)), some (.inl v), some (.inl (s 3049)), some (.inl r2), some (.inl j28), none, none], [.inr (.inl 30)], n, D, s197, p, c)) rfl ?_
                  refine tt_cl (by omega) rfl (k_readScan (Zi := Zi) (D := D) (s := s197) (p := p) (c := c) (by omega) hS197 hC (show (s197 3050) = 0 by omega) (show (2 ≤ (s197 3060) ∧ (s197 3060) ≤ 16) ∧ (1 ≤ (s197 3057) ∧ (s197 3057) ≤ 64) ∧ (1 ≤ (s197 3058) ∧ (s197 3058) ≤ 64) by omega) (show (s197 3061) < (s197 3059) by omega)) ?_
                  rintro _ _ ⟨s239, c240, rfl, rfl, hS239, hC240, f241, g242, k243, k244⟩
                  show tt Zi d 190 (110, [some (.inr (.inl 30)), some (.inl v), some (.inl (s 3049)), some (.inl r2), some (.inl j28), none, none], [], n, D, s239, p, c240) _
                  replace k243 : (s197 3049) ≤ (s239 3049) := k243
                  replace k244 : (s239 3061) ≤ (s197 3061) + 1 := k244
                  have b245 : 0 ≤ (s239 3049) ∧ (s239 3049) ≤ 32769 := hS239 3049
                  have b246 : 0 ≤ (s239 3061) ∧ (s239 3061) ≤ 3 := hS239 3061
                  have e247 : s239 3059 = (s197 3059) := (f241 3059 (by decide))
                  have b248 : 0 ≤ (s239 3059) ∧ (s239 3059) ≤ 3 := hS239 3059
                  have e249 : s239 3060 = (s197 3060) := (f241 3060 (by decide))
                  have b250 : 0 ≤ (s239 3060) ∧ (s239 3060) ≤ 255 := hS239 3060
                  have e251 : s239 3057 = (s197 3057) := (f241 3057 (by decide))
                  have b252 : 0 ≤ (s239 3057) ∧ (s239 3057) ≤ 65535 := hS239 3057
                  have e253 : s239 3058 = (s197 3058) := (f241 3058 (by decide))
                  have b254 : 0 ≤ (s239 3058) ∧ (s239 3058) ≤ 65535 := hS239 3058
                  refine tt_k 1 (S' := (141, [some (.inr (.inl 30)), some (.inl v), some (.inl (s 3049)), some (.inl r2), some (.inl j28), none, none], [], n, D, s239, p, c240)) rfl ?_
                  exact tt_rtv rfl rfl ⟨s239, c240, rfl, rfl, hS239, hC240, (fr_tr (fr_tr (fr_tr fr_rf f3 (by decide)) f198 (by decide)) f241 (by decide)), (frc_tr frc_rf g242 (by decide)), by show s 3049 ≤ (s239 3049); omega, by show (s239 3050) = 0 → (s239 3061) ≤ (s239 3059) ∧ (0 < (s239 3059) → (2 ≤ (s239 3060) ∧ (s239 3060) ≤ 16) ∧ (1 ≤ (s239 3057) ∧ (s239 3057) ≤ 64) ∧ (1 ≤ (s239 3058) ∧ (s239 3058) ≤ 64)); omega⟩
              · show tt Zi d 190 (92, [some (.inr (.inl 30)), some (.inl v), some (.inl (s 3049)), some (.inl r2), some (.inl j28), none, none], [], n, D, s197, p, c) _
                refine tt_k 1 (S' := (93, [some (.inr (.inl 30)), some (.inl v), some (.inl (s 3049)), some (.inl r2), some (.inl j28), none, none], [.inr (.inl 30)], n, D, s197, p, c)) rfl ?_
                refine tt_cl (by omega) rfl (k_readMeasures (Zi := Zi) (D := D) (s := s197) (p := p) (c := c) (by omega) hS197 hC ) ?_
                rintro _ _ ⟨s255, c256, rfl, rfl, hS255, hC256, f257, g258, k259, k260⟩
                show tt Zi d 190 (96, [some (.inr (.inl 30)), some (.inl v), some (.inl (s 3049)), some (.inl r2), some (.inl j28), none, none], [], n, D, s255, p, c256) _
                replace k259 : (s197 3049) ≤ (s255 3049) := k259
                replace k260 : (s197 3050) ≠ 0 → (s255 3050) ≠ 0 := k260
                have b261 : 0 ≤ (s255 3049) ∧ (s255 3049) ≤ 32769 := hS255 3049
                have b262 : 0 ≤ (s255 3050) ∧ (s255 3050) ≤ 8 := hS255 3050
                have e263 : s255 3061 = (s197 3061) := (f257 3061 (by decide))
                have b264 : 0 ≤ (s255 3061) ∧ (s255 3061) ≤ 3 := hS255 3061
                have e265 : s255 3059 = (s197 3059) := (f257 3059 (by decide))
                have b266 : 0 ≤ (s255 3059) ∧ (s255 3059) ≤ 3 := hS255 3059
                have e267 : s255 3060 = (s197 3060) := (f257 3060 (by decide))
                have b268 : 0 ≤ (s255 3060) ∧ (s255 3060) ≤ 255 := hS255 3060
                have e269 : s255 3057 = (s197 3057) := (f257 3057 (by decide))
                have b270 : 0 ≤ (s255 3057) ∧ (s255 3057) ≤ 65535 := hS255 3057
                have e271 : s255 3058 = (s197 3058) := (f257 3058 (by decide))
                have b272 : 0 ≤ (s255 3058) ∧ (s255 3058) ≤ 65535 := hS255 3058
                refine tt_k 1 (S' := (141, [some (.inr (.inl 30)), some (.inl v), some (.inl (s 3049)), some (.inl r2), some (.inl j28), none, none], [], n, D, s255, p, c256)) rfl ?_
                exact tt_rtv rfl rfl ⟨s255, c256, rfl, rfl, hS255, hC256, (fr_tr (fr_tr (fr_tr fr_rf f3 (by decide)) f198 (by decide)) f257 (by decide)), (frc_tr frc_rf g258 (by decide)), by show s 3049 ≤ (s255 3049); omega, by show (s255 3050) = 0 → (s255 3061) ≤ (s255 3059) ∧ (0 < (s255 3059) → (2 ≤ (s255 3060) ∧ (s255 3060) ≤ 16) ∧ (1 ≤ (s255 3057) ∧ (s255 3057) ≤ 64) ∧ (1 ≤ (s255 3058) ∧ (s255 3058) ≤ 64)); omega⟩
            · show tt Zi d 190 (76, [some (.inr (.inl 30)), some (.inl v), some (.inl (s 3049)), some (.inl r2), some (.inl j28), none, none], [], n, D, s197, p, c) _
              refine tt_k 3 (S' := (79, [some (.inr (.inl 30)), some (.inl v), some (.inl (s 3049)), some (.inl r2), some (.inl j28), none, none], [.inl r2, .inl (s 3049), .inr (.inl 30)], n, D, s197, p, c)) rfl ?_
              refine tt_cl (by omega) rfl (k_readFrame (Zi := Zi) (D := D) (s := s197) (p := p) (c := c) (by omega) hS197 hC (s 3049) r2 (by omega) (by omega) (show (s197 3050) = 0 by omega) (show 1 ≤ (s197 3049) by omega)) ?_
              rintro _ _ ⟨s273, c274, rfl, rfl, hS273, hC274, f275, g276, k277, k278⟩
              show tt Zi d 190 (82, [some (.inr (.inl 30)), some (.inl v), some (.inl (s 3049)), some (.inl r2), some (.inl j28), none, none], [], n, D, s273, p, c274) _
              replace k277 : (s197 3049) ≤ (s273 3049) := k277
              replace k278 : (s273 3050) = 0 → (2 ≤ (s273 3060) ∧ (s273 3060) ≤ 16) ∧ (1 ≤ (s273 3057) ∧ (s273 3057) ≤ 64) ∧ (1 ≤ (s273 3058) ∧ (s273 3058) ≤ 64) := k278
              have b279 : 0 ≤ (s273 3049) ∧ (s273 3049) ≤ 32769 := hS273 3049
              have b280 : 0 ≤ (s273 3050) ∧ (s273 3050) ≤ 8 := hS273 3050
              have b281 : 0 ≤ (s273 3060) ∧ (s273 3060) ≤ 255 := hS273 3060
              have b282 : 0 ≤ (s273 3057) ∧ (s273 3057) ≤ 65535 := hS273 3057
              have b283 : 0 ≤ (s273 3058) ∧ (s273 3058) ≤ 65535 := hS273 3058
              have e284 : s273 3061 = (s197 3061) := (f275 3061 (by decide))
              have b285 : 0 ≤ (s273 3061) ∧ (s273 3061) ≤ 3 := hS273 3061
              refine tt_k 1 (S' := (141, [some (.inr (.inl 30)), some (.inl v), some (.inl (s 3049)), some (.inl r2), some (.inl j28), none, none], [], n, D, s273, p, c274)) rfl ?_
              have b286 : 0 ≤ (s273 3059) ∧ (s273 3059) ≤ 3 := hS273 3059
              exact tt_rtv rfl rfl ⟨s273, c274, rfl, rfl, hS273, hC274, (fr_tr (fr_tr (fr_tr fr_rf f3 (by decide)) f198 (by decide)) f275 (by decide)), (frc_tr frc_rf g276 (by decide)), by show s 3049 ≤ (s273 3049); omega, by show (s273 3050) = 0 → (s273 3061) ≤ (s273 3059) ∧ (0 < (s273 3059) → (2 ≤ (s273 3060) ∧ (s273 3060) ≤ 16) ∧ (1 ≤ (s273 3057) ∧ (s273 3057) ≤ 64) ∧ (1 ≤ (s273 3058) ∧ (s273 3058) ≤ 64)); omega⟩
          · show tt Zi d 190 (68, [some (.inr (.inl 30)), some (.inl v), some (.inl (s 3049)), some (.inl r2), some (.inl j28), none, none], [], n, D, s197, p, c) _
            exact tt_rtv rfl rfl ⟨s197, c, rfl, rfl, hS197, hC, (fr_tr (fr_tr fr_rf f3 (by decide)) f198 (by decide)), frc_rf, by show s 3049 ≤ (s197 3049); omega, by show (s197 3050) = 0 → (s197 3061) ≤ (s197 3059) ∧ (0 < (s197 3059) → (2 ≤ (s197 3060) ∧ (s197 3060) ≤ 16) ∧ (1 ≤ (s197 3057) ∧ (s197 3057) ≤ 64) ∧ (1 ≤ (s197 3058) ∧ (s197 3058) ≤ 64)); omega⟩
  refine tb_ne (x := v) (y := 248) rfl rfl (by omega) (fun h287 => ?_) (fun h287 => ?_)
  · show tt Zi d 190 (22, [some (.inr (.inl 30)), some (.inl v), some (.inl (s 3049)), some (.inl r2), none, none, none], [], n, D, s1, p, c) _
    refine tt_k 2 (S' := (26, [some (.inr (.inl 30)), some (.inl v), some (.inl (s 3049)), some (.inl r2), none, none, none], [.inl 218, .inl v], n, D, s1, p, c)) rfl ?_
    refine tb_ne (x := v) (y := 218) rfl rfl (by omega) (fun h288 => ?_) (fun h288 => ?_)
    · show tt Zi d 190 (34, [some (.inr (.inl 30)), some (.inl v), some (.inl (s 3049)), some (.inl r2), none, none, none], [], n, D, s1, p, c) _
      refine tt_k 1 (S' := (35, [some (.inr (.inl 30)), some (.inl v), some (.inl (s 3049)), some (.inl r2), none, none, none], [.inl r2], n, D, s1, p, c)) rfl ?_
      exact K29 r2  (by omega) (Or.inl ⟨h287, h288, rfl⟩)
    · show tt Zi d 190 (29, [some (.inr (.inl 30)), some (.inl v), some (.inl (s 3049)), some (.inl r2), none, none, none], [], n, D, s1, p, c) _
      refine tt_k 2 (S' := (35, [some (.inr (.inl 30)), some (.inl v), some (.inl (s 3049)), some (.inl r2), none, none, none], [.inl 8], n, D, s1, p, c)) rfl ?_
      exact K29 8  (by omega) (Or.inr (Or.inl ⟨h287, h288, rfl⟩))
  · show tt Zi d 190 (17, [some (.inr (.inl 30)), some (.inl v), some (.inl (s 3049)), some (.inl r2), none, none, none], [], n, D, s1, p, c) _
    refine tt_k 2 (S' := (35, [some (.inr (.inl 30)), some (.inl v), some (.inl (s 3049)), some (.inl r2), none, none, none], [.inl 13], n, D, s1, p, c)) rfl ?_
    exact K29 13  (by omega) (Or.inr (Or.inr (⟨h287, rfl⟩)))
set_option maxRecDepth 100000 in
set_option maxHeartbeats 4000000 in
theorem k_readAll_L32 {Zi : Nat → Option (Nat × (Nat → Int))} {d n : Nat} {D : Nat → Nat × Nat} {s : Nat → Int} {p : Nat → Nat} {c : Nat → Nat → Int}  {Q : mi_Rs → mi_H → Prop} (hd : 10 ≤ d) (hS : bS s) (hC : bC D c) 
  (hK : ∀ (v : Int) (mo : Int) (s0 : Nat → Int) (c0 : Nat → Nat → Int) (b_v : 0 ≤ v ∧ v ≤ 255) (b_mo : 0 ≤ mo ∧ mo ≤ 1) (hS0 : bS s0) (hF0 : fr s s0 [3017, 3018, 3019, 3020, 3021, 3022, 3023, 3024, 3025, 3026, 3035, 3036, 3037, 3038, 3039, 3041, 3042, 3043, 3044, 3045, 3046, 3049, 3050, 3051, 3052, 3053, 3054, 3057, 3058, 3059, 3060, 3061]) (hC0 : bC D c0) (hG0 : frc c c0 [36, 37, 38, 39, 40, 41, 42, 43, 44, 45, 46]) (i0 : s0 3050 = 0 → s0 3061 ≤ s0 3059 ∧ (0 < s0 3059 → (2 ≤ s0 3060 ∧ s0 3060 ≤ 16) ∧ (1 ≤ s0 3057 ∧ s0 3057 ≤ 64) ∧ (1 ≤ s0 3058 ∧ s0 3058 ≤ 64))) (i1 : s0 3050 = 0 → mo = 0 → 0 < s0 3059) (i2 : s0 3050 = 0 → s0 3049 ≤ 32769), (mo = 0 ∨ s0 3050 ≠ 0) → tt Zi d 186 (106, [some (.inr (.inl 30)), some (.inl v), some (.inl mo)], [], n, D, s0, p, c0) Q) :
  ∀ (m : Nat) (v : Int) (mo : Int) (s0 : Nat → Int) (c0 : Nat → Nat → Int) (b_v : 0 ≤ v ∧ v ≤ 255) (b_mo : 0 ≤ mo ∧ mo ≤ 1) (hS0 : bS s0) (hF0 : fr s s0 [3017, 3018, 3019, 3020, 3021, 3022, 3023, 3024, 3025, 3026, 3035, 3036, 3037, 3038, 3039, 3041, 3042, 3043, 3044, 3045, 3046, 3049, 3050, 3051, 3052, 3053, 3054, 3057, 3058, 3059, 3060, 3061]) (hC0 : bC D c0) (hG0 : frc c c0 [36, 37, 38, 39, 40, 41, 42, 43, 44, 45, 46]) (i0 : s0 3050 = 0 → s0 3061 ≤ s0 3059 ∧ (0 < s0 3059 → (2 ≤ s0 3060 ∧ s0 3060 ≤ 16) ∧ (1 ≤ s0 3057 ∧ s0 3057 ≤ 64) ∧ (1 ≤ s0 3058 ∧ s0 3058 ≤ 64))) (i1 : s0 3050 = 0 → mo = 0 → 0 < s0 3059) (i2 : s0 3050 = 0 → s0 3049 ≤ 32769), (if mo = 1 ∧ s0 3050 = 0 then 32770 - s0 3049 else 0).toNat < m → tt Zi d 186 (32, [some (.inr (.inl 30)), some (.inl v), some (.inl mo)], [], n, D, s0, p, c0) Q := by
  intro m
  induction m with
  | zero => intro v mo s0 c0 b_v b_mo hS0 hF0 hC0 hG0 i0 i1 i2 hm; exact absurd hm (by omega)
  | succ m ih =>
    intro v mo s0 c0 b_v b_mo hS0 hF0 hC0 hG0 i0 i1 i2 hm
    have e1 : s0 3014 = s 3014 := hF0 3014 (by decide)
    have b2 : 0 ≤ (s0 3014) ∧ (s0 3014) ≤ 32768 := hS0 3014
    have b3 : 0 ≤ (s 3014) ∧ (s 3014) ≤ 32768 := hS 3014
    refine tt_k 1 (S' := (33, [some (.inr (.inl 30)), some (.inl v), some (.inl mo)], [.inl mo], n, D, s0, p, c0)) rfl ?_
    refine tz_eq (x := mo) rfl rfl (by omega) (fun h4 => ?_) (fun h4 => ?_)
    · show tt Zi d 186 (106, [some (.inr (.inl 30)), some (.inl v), some (.inl mo)], [], n, D, s0, p, c0) _
      exact hK v mo s0 c0 (by omega) (by omega) hS0 hF0 hC0 hG0 (show (s0 3050) = 0 → (s0 3061) ≤ (s0 3059) ∧ (0 < (s0 3059) → (2 ≤ (s0 3060) ∧ (s0 3060) ≤ 16) ∧ (1 ≤ (s0 3057) ∧ (s0 3057) ≤ 64) ∧ (1 ≤ (s0 3058) ∧ (s0 3058) ≤ 64)) by omega) (show (s0 3050) = 0 → mo = 0 → 0 < (s0 3059) by omega) (show (s0 3050) = 0 → (s0 3049) ≤ 32769 by omega) (by omega)
    · show tt Zi d 186 (36, [some (.inr (.inl 30)), some (.inl v), some (.inl mo)], [], n, D, s0, p, c0) _
      refine tt_k 2 (S' := (40, [some (.inr (.inl 30)), some (.inl v), some (.inl mo)], [.inl (s0 3050)], n, D, s0, p, c0)) rfl ?_
      have b5 : 0 ≤ (s0 3050) ∧ (s0 3050) ≤ 8 := hS0 3050
      refine tz_ne (x := (s0 3050)) rfl rfl (by omega) (fun h6 => ?_) (fun h6 => ?_)
      · show tt Zi d 186 (106, [some (.inr (.inl 30)), some (.inl v), some (.inl mo)], [], n, D, s0, p, c0) _
        exact hK v mo s0 c0 (by omega) (by omega) hS0 hF0 hC0 hG0 (show (s0 3050) = 0 → (s0 3061) ≤ (s0 3059) ∧ (0 < (s0 3059) → (2 ≤ (s0 3060) ∧ (s0 3060) ≤ 16) ∧ (1 ≤ (s0 3057) ∧ (s0 3057) ≤ 64) ∧ (1 ≤ (s0 3058) ∧ (s0 3058) ≤ 64)) by omega) (show (s0 3050) = 0 → mo = 0 → 0 < (s0 3059) by omega) (show (s0 3050) = 0 → (s0 3049) ≤ 32769 by omega) (by omega)
      · show tt Zi d 186 (43, [some (.inr (.inl 30)), some (.inl v), some (.inl mo)], [], n, D, s0, p, c0) _
        refine tt_k 1 (S' := (44, [some (.inr (.inl 30)), some (.inl v), some (.inl mo)], [.inr (.inl 30)], n, D, s0, p, c0)) rfl ?_
        refine tt_cl (by omega) rfl (k_nextMark (Zi := Zi) (D := D) (s := s0) (p := p) (c := c0) (by omega) hS0 hC0 ) ?_
        rintro _ _ ⟨s7, r8, rfl, rfl, hS7, f9, b10, k11, k12, k13⟩
        show tt Zi d 186 (47, [some (.inr (.inl 30)), some (.inl v), some (.inl mo)], [.inl r8], n, D, s7, p, c0) _
        replace k11 : (s0 3050) ≠ 0 → (s7 3050) ≠ 0 := k11
        replace k12 : (s7 3050) = 0 → (s0 3049) + 2 ≤ (s7 3049) ∧ (s7 3049) ≤ (s0 3014) := k12
        replace k13 : (s0 3049) ≤ (s7 3049) := k13
        have b14 : 0 ≤ (s7 3050) ∧ (s7 3050) ≤ 8 := hS7 3050
        have b15 : 0 ≤ (s0 3049) ∧ (s0 3049) ≤ 32769 := hS0 3049
        have b16 : 0 ≤ (s7 3049) ∧ (s7 3049) ≤ 32769 := hS7 3049
        have e17 : s7 3061 = (s0 3061) := (f9 3061 (by decide))
        have b18 : 0 ≤ (s7 3061) ∧ (s7 3061) ≤ 3 := hS7 3061
        have b19 : 0 ≤ (s0 3061) ∧ (s0 3061) ≤ 3 := hS0 3061
        have e20 : s7 3059 = (s0 3059) := (f9 3059 (by decide))
        have b21 : 0 ≤ (s7 3059) ∧ (s7 3059) ≤ 3 := hS7 3059
        have b22 : 0 ≤ (s0 3059) ∧ (s0 3059) ≤ 3 := hS0 3059
        have e23 : s7 3060 = (s0 3060) := (f9 3060 (by decide))
        have b24 : 0 ≤ (s7 3060) ∧ (s7 3060) ≤ 255 := hS7 3060
        have b25 : 0 ≤ (s0 3060) ∧ (s0 3060) ≤ 255 := hS0 3060
        have e26 : s7 3057 = (s0 3057) := (f9 3057 (by decide))
        have b27 : 0 ≤ (s7 3057) ∧ (s7 3057) ≤ 65535 := hS7 3057
        have b28 : 0 ≤ (s0 3057) ∧ (s0 3057) ≤ 65535 := hS0 3057
        have e29 : s7 3058 = (s0 3058) := (f9 3058 (by decide))
        have b30 : 0 ≤ (s7 3058) ∧ (s7 3058) ≤ 65535 := hS7 3058
        have b31 : 0 ≤ (s0 3058) ∧ (s0 3058) ≤ 65535 := hS0 3058
        have e32 : s7 3014 = (s0 3014) := (f9 3014 (by decide))
        have b33 : 0 ≤ (s7 3014) ∧ (s7 3014) ≤ 32768 := hS7 3014
        refine tt_k 3 (S' := (52, [some (.inr (.inl 30)), some (.inl r8), some (.inl mo)], [.inl (s7 3050)], n, D, s7, p, c0)) rfl ?_
        refine tz_ne (x := (s7 3050)) rfl rfl (by omega) (fun h34 => ?_) (fun h34 => ?_)
        · show tt Zi d 186 (74, [some (.inr (.inl 30)), some (.inl r8), some (.inl mo)], [], n, D, s7, p, c0) _
          refine tt_k 2 (S' := (78, [some (.inr (.inl 30)), some (.inl r8), some (.inl mo)], [.inl 217, .inl r8], n, D, s7, p, c0)) rfl ?_
          have K36 : ∀ (j35 : Int) , (0 ≤ j35 ∧ j35 ≤ 1) → ((r8 = 217 ∧ j35 = 0) ∨ (r8 ≠ 217 ∧ j35 = 1)) → tt Zi d 186 (86, [some (.inr (.inl 30)), some (.inl r8), some (.inl mo)], [.inl j35], n, D, s7, p, c0) Q := by
            intro j35 b38 hj37
            refine tt_k 2 (S' := (88, [some (.inr (.inl 30)), some (.inl r8), some (.inl j35)], [.inl j35], n, D, s7, p, c0)) rfl ?_
            refine tz_eq (x := j35) rfl rfl (by omega) (fun h39 => ?_) (fun h39 => ?_)
            · show tt Zi d 186 (32, [some (.inr (.inl 30)), some (.inl r8), some (.inl j35)], [], n, D, s7, p, c0) _
              exact ih r8 j35 s7 c0 (by omega) (by omega) hS7 (fr_tr hF0 f9 (by decide)) hC0 hG0 (show (s7 3050) = 0 → (s7 3061) ≤ (s7 3059) ∧ (0 < (s7 3059) → (2 ≤ (s7 3060) ∧ (s7 3060) ≤ 16) ∧ (1 ≤ (s7 3057) ∧ (s7 3057) ≤ 64) ∧ (1 ≤ (s7 3058) ∧ (s7 3058) ≤ 64)) by omega) (show (s7 3050) = 0 → j35 = 0 → 0 < (s7 3059) by omega) (show (s7 3050) = 0 → (s7 3049) ≤ 32769 by omega) (show (if j35 = 1 ∧ (s7 3050) = 0 then 32770 - (s7 3049) else 0).toNat < m by omega)
            · show tt Zi d 186 (91, [some (.inr (.inl 30)), some (.inl r8), some (.inl j35)], [], n, D, s7, p, c0) _
              refine tt_k 2 (S' := (95, [some (.inr (.inl 30)), some (.inl r8), some (.inl j35)], [.inl (s7 3050)], n, D, s7, p, c0)) rfl ?_
              refine tz_ne (x := (s7 3050)) rfl rfl (by omega) (fun h40 => ?_) (fun h40 => ?_)
              · show tt Zi d 186 (32, [some (.inr (.inl 30)), some (.inl r8), some (.inl j35)], [], n, D, s7, p, c0) _
                exact ih r8 j35 s7 c0 (by omega) (by omega) hS7 (fr_tr hF0 f9 (by decide)) hC0 hG0 (show (s7 3050) = 0 → (s7 3061) ≤ (s7 3059) ∧ (0 < (s7 3059) → (2 ≤ (s7 3060) ∧ (s7 3060) ≤ 16) ∧ (1 ≤ (s7 3057) ∧ (s7 3057) ≤ 64) ∧ (1 ≤ (s7 3058) ∧ (s7 3058) ≤ 64)) by omega) (show (s7 3050) = 0 → j35 = 0 → 0 < (s7 3059) by omega) (show (s7 3050) = 0 → (s7 3049) ≤ 32769 by omega) (show (if j35 = 1 ∧ (s7 3050) = 0 then 32770 - (s7 3049) else 0).toNat < m by omega)
              · exfalso; omega
          refine tb_eq (x := r8) (y := 217) rfl rfl (by omega) (fun h41 => ?_) (fun h41 => ?_)
          · show tt Zi d 186 (85, [some (.inr (.inl 30)), some (.inl r8), some (.inl mo)], [], n, D, s7, p, c0) _
            refine tt_k 1 (S' := (86, [some (.inr (.inl 30)), some (.inl r8), some (.inl mo)], [.inl 0], n, D, s7, p, c0)) rfl ?_
            exact K36 0  (by omega) (Or.inl ⟨h41, rfl⟩)
          · show tt Zi d 186 (81, [some (.inr (.inl 30)), some (.inl r8), some (.inl mo)], [], n, D, s7, p, c0) _
            refine tt_k 2 (S' := (86, [some (.inr (.inl 30)), some (.inl r8), some (.inl mo)], [.inl 1], n, D, s7, p, c0)) rfl ?_
            exact K36 1  (by omega) (Or.inr (⟨h41, rfl⟩))
        · show tt Zi d 186 (55, [some (.inr (.inl 30)), some (.inl r8), some (.inl mo)], [], n, D, s7, p, c0) _
          refine tt_k 2 (S' := (57, [some (.inr (.inl 30)), some (.inl r8), some (.inl mo)], [.inl r8, .inr (.inl 30)], n, D, s7, p, c0)) rfl ?_
          refine tt_cl (by omega) rfl (k_comes (Zi := Zi) (D := D) (s := s7) (p := p) (c := c0) (by omega) hS7 hC0 r8 (by omega)) ?_
          rintro _ _ ⟨r42, rfl, rfl, b43, k44, k45, k46⟩
          show tt Zi d 186 (60, [some (.inr (.inl 30)), some (.inl r8), some (.inl mo)], [.inl r42], n, D, s7, p, c0) _
          replace k44 : r42 = 1 → r8 = 247 → (s7 3059) = 0 := k44
          replace k45 : r42 = 1 → r8 = 218 → (s7 3061) < (s7 3059) := k45
          replace k46 : r42 = 1 → r8 = 217 → 0 < (s7 3059) := k46
          refine tz_ne (x := r42) rfl rfl (by omega) (fun h47 => ?_) (fun h47 => ?_)
          · show tt Zi d 186 (74, [some (.inr (.inl 30)), some (.inl r8), some (.inl mo)], [], n, D, s7, p, c0) _
            refine tt_k 2 (S' := (78, [some (.inr (.inl 30)), some (.inl r8), some (.inl mo)], [.inl 217, .inl r8], n, D, s7, p, c0)) rfl ?_
            have K49 : ∀ (j48 : Int) , (0 ≤ j48 ∧ j48 ≤ 1) → ((r8 = 217 ∧ j48 = 0) ∨ (r8 ≠ 217 ∧ j48 = 1)) → tt Zi d 186 (86, [some (.inr (.inl 30)), some (.inl r8), some (.inl mo)], [.inl j48], n, D, s7, p, c0) Q := by
              intro j48 b51 hj50
              refine tt_k 2 (S' := (88, [some (.inr (.inl 30)), some (.inl r8), some (.inl j48)], [.inl j48], n, D, s7, p, c0)) rfl ?_
              refine tz_eq (x := j48) rfl rfl (by omega) (fun h52 => ?_) (fun h52 => ?_)
              · show tt Zi d 186 (32, [some (.inr (.inl 30)), some (.inl r8), some (.inl j48)], [], n, D, s7, p, c0) _
                exact ih r8 j48 s7 c0 (by omega) (by omega) hS7 (fr_tr hF0 f9 (by decide)) hC0 hG0 (show (s7 3050) = 0 → (s7 3061) ≤ (s7 3059) ∧ (0 < (s7 3059) → (2 ≤ (s7 3060) ∧ (s7 3060) ≤ 16) ∧ (1 ≤ (s7 3057) ∧ (s7 3057) ≤ 64) ∧ (1 ≤ (s7 3058) ∧ (s7 3058) ≤ 64)) by omega) (show (s7 3050) = 0 → j48 = 0 → 0 < (s7 3059) by omega) (show (s7 3050) = 0 → (s7 3049) ≤ 32769 by omega) (show (if j48 = 1 ∧ (s7 3050) = 0 then 32770 - (s7 3049) else 0).toNat < m by omega)
              · show tt Zi d 186 (91, [some (.inr (.inl 30)), some (.inl r8), some (.inl j48)], [], n, D, s7, p, c0) _
                refine tt_k 2 (S' := (95, [some (.inr (.inl 30)), some (.inl r8), some (.inl j48)], [.inl (s7 3050)], n, D, s7, p, c0)) rfl ?_
                refine tz_ne (x := (s7 3050)) rfl rfl (by omega) (fun h53 => ?_) (fun h53 => ?_)
                · exfalso; omega
                · show tt Zi d 186 (98, [some (.inr (.inl 30)), some (.inl r8), some (.inl j48)], [], n, D, s7, p, c0) _
                  refine tt_k 2 (S' := (100, [some (.inr (.inl 30)), some (.inl r8), some (.inl j48)], [.inl r8, .inr (.inl 30)], n, D, s7, p, c0)) rfl ?_
                  refine tt_cl (by omega) rfl (k_section (Zi := Zi) (D := D) (s := s7) (p := p) (c := c0) (by omega) hS7 hC0 r8 (by omega) (show (s7 3050) = 0 by omega) (show (s7 3061) ≤ (s7 3059) ∧ (0 < (s7 3059) → (2 ≤ (s7 3060) ∧ (s7 3060) ≤ 16) ∧ (1 ≤ (s7 3057) ∧ (s7 3057) ≤ 64) ∧ (1 ≤ (s7 3058) ∧ (s7 3058) ≤ 64)) by omega) (show r8 = 247 → (s7 3059) = 0 by omega) (show r8 = 218 → (s7 3061) < (s7 3059) by omega)) ?_
                  rintro _ _ ⟨s54, c55, rfl, rfl, hS54, hC55, f56, g57, k58, k59⟩
                  show tt Zi d 186 (103, [some (.inr (.inl 30)), some (.inl r8), some (.inl j48)], [], n, D, s54, p, c55) _
                  replace k58 : (s7 3049) ≤ (s54 3049) := k58
                  replace k59 : (s54 3050) = 0 → (s54 3061) ≤ (s54 3059) ∧ (0 < (s54 3059) → (2 ≤ (s54 3060) ∧ (s54 3060) ≤ 16) ∧ (1 ≤ (s54 3057) ∧ (s54 3057) ≤ 64) ∧ (1 ≤ (s54 3058) ∧ (s54 3058) ≤ 64)) := k59
                  have b60 : 0 ≤ (s54 3049) ∧ (s54 3049) ≤ 32769 := hS54 3049
                  have b61 : 0 ≤ (s54 3050) ∧ (s54 3050) ≤ 8 := hS54 3050
                  have b62 : 0 ≤ (s54 3061) ∧ (s54 3061) ≤ 3 := hS54 3061
                  have b63 : 0 ≤ (s54 3059) ∧ (s54 3059) ≤ 3 := hS54 3059
                  have b64 : 0 ≤ (s54 3060) ∧ (s54 3060) ≤ 255 := hS54 3060
                  have b65 : 0 ≤ (s54 3057) ∧ (s54 3057) ≤ 65535 := hS54 3057
                  have b66 : 0 ≤ (s54 3058) ∧ (s54 3058) ≤ 65535 := hS54 3058
                  have e67 : s54 3014 = (s7 3014) := (f56 3014 (by decide))
                  have b68 : 0 ≤ (s54 3014) ∧ (s54 3014) ≤ 32768 := hS54 3014
                  refine tt_k 1 (S' := (32, [some (.inr (.inl 30)), some (.inl r8), some (.inl j48)], [], n, D, s54, p, c55)) rfl ?_
                  exact ih r8 j48 s54 c55 (by omega) (by omega) hS54 (fr_tr (fr_tr hF0 f9 (by decide)) f56 (by decide)) hC55 (frc_tr hG0 g57 (by decide)) (show (s54 3050) = 0 → (s54 3061) ≤ (s54 3059) ∧ (0 < (s54 3059) → (2 ≤ (s54 3060) ∧ (s54 3060) ≤ 16) ∧ (1 ≤ (s54 3057) ∧ (s54 3057) ≤ 64) ∧ (1 ≤ (s54 3058) ∧ (s54 3058) ≤ 64)) by omega) (show (s54 3050) = 0 → j48 = 0 → 0 < (s54 3059) by omega) (show (s54 3050) = 0 → (s54 3049) ≤ 32769 by omega) (show (if j48 = 1 ∧ (s54 3050) = 0 then 32770 - (s54 3049) else 0).toNat < m by omega)
            refine tb_eq (x := r8) (y := 217) rfl rfl (by omega) (fun h69 => ?_) (fun h69 => ?_)
            · show tt Zi d 186 (85, [some (.inr (.inl 30)), some (.inl r8), some (.inl mo)], [], n, D, s7, p, c0) _
              refine tt_k 1 (S' := (86, [some (.inr (.inl 30)), some (.inl r8), some (.inl mo)], [.inl 0], n, D, s7, p, c0)) rfl ?_
              exact K49 0  (by omega) (Or.inl ⟨h69, rfl⟩)
            · show tt Zi d 186 (81, [some (.inr (.inl 30)), some (.inl r8), some (.inl mo)], [], n, D, s7, p, c0) _
              refine tt_k 2 (S' := (86, [some (.inr (.inl 30)), some (.inl r8), some (.inl mo)], [.inl 1], n, D, s7, p, c0)) rfl ?_
              exact K49 1  (by omega) (Or.inr (⟨h69, rfl⟩))
          · show tt Zi d 186 (63, [some (.inr (.inl 30)), some (.inl r8), some (.inl mo)], [], n, D, s7, p, c0) _
            refine tt_k 6 (S' := (71, [some (.inr (.inl 30)), some (.inl r8), some (.inl mo)], [.inl ((s7 3049) - 1), .inl 3, .inr (.inl 30)], n, D, s7, p, c0)) rfl ?_
            refine tt_cl (by omega) rfl (k_fail (Zi := Zi) (D := D) (s := s7) (p := p) (c := c0) (by omega) hS7 hC0 3 ((s7 3049) - 1) (by omega) (by omega)) ?_
            rintro _ _ ⟨s70, rfl, rfl, hS70, f71, k72, k73⟩
            show tt Zi d 186 (74, [some (.inr (.inl 30)), some (.inl r8), some (.inl mo)], [], n, D, s70, p, c0) _
            replace k72 : ((s7 3050) = 0 → (s70 3050) = 3 ∧ (s70 3051) = ((s7 3049) - 1)) := k72
            replace k73 : ((s7 3050) ≠ 0 → (s70 3050) = (s7 3050) ∧ (s70 3051) = (s7 3051)) := k73
            have b74 : 0 ≤ (s70 3050) ∧ (s70 3050) ≤ 8 := hS70 3050
            have b75 : -1 ≤ (s70 3051) ∧ (s70 3051) ≤ 32769 := hS70 3051
            have b76 : -1 ≤ (s7 3051) ∧ (s7 3051) ≤ 32769 := hS7 3051
            have e77 : s70 3049 = (s7 3049) := (f71 3049 (by decide))
            have b78 : 0 ≤ (s70 3049) ∧ (s70 3049) ≤ 32769 := hS70 3049
            have e79 : s70 3061 = (s7 3061) := (f71 3061 (by decide))
            have b80 : 0 ≤ (s70 3061) ∧ (s70 3061) ≤ 3 := hS70 3061
            have e81 : s70 3059 = (s7 3059) := (f71 3059 (by decide))
            have b82 : 0 ≤ (s70 3059) ∧ (s70 3059) ≤ 3 := hS70 3059
            have e83 : s70 3060 = (s7 3060) := (f71 3060 (by decide))
            have b84 : 0 ≤ (s70 3060) ∧ (s70 3060) ≤ 255 := hS70 3060
            have e85 : s70 3057 = (s7 3057) := (f71 3057 (by decide))
            have b86 : 0 ≤ (s70 3057) ∧ (s70 3057) ≤ 65535 := hS70 3057
            have e87 : s70 3058 = (s7 3058) := (f71 3058 (by decide))
            have b88 : 0 ≤ (s70 3058) ∧ (s70 3058) ≤ 65535 := hS70 3058
            have e89 : s70 3014 = (s7 3014) := (f71 3014 (by decide))
            have b90 : 0 ≤ (s70 3014) ∧ (s70 3014) ≤ 32768 := hS70 3014
            refine tt_k 2 (S' := (78, [some (.inr (.inl 30)), some (.inl r8), some (.inl mo)], [.inl 217, .inl r8], n, D, s70, p, c0)) rfl ?_
            have K92 : ∀ (j91 : Int) , (0 ≤ j91 ∧ j91 ≤ 1) → ((r8 = 217 ∧ j91 = 0) ∨ (r8 ≠ 217 ∧ j91 = 1)) → tt Zi d 186 (86, [some (.inr (.inl 30)), some (.inl r8), some (.inl mo)], [.inl j91], n, D, s70, p, c0) Q := by
              intro j91 b94 hj93
              refine tt_k 2 (S' := (88, [some (.inr (.inl 30)), some (.inl r8), some (.inl j91)], [.inl j91], n, D, s70, p, c0)) rfl ?_
              refine tz_eq (x := j91) rfl rfl (by omega) (fun h95 => ?_) (fun h95 => ?_)
              · show tt Zi d 186 (32, [some (.inr (.inl 30)), some (.inl r8), some (.inl j91)], [], n, D, s70, p, c0) _
                exact ih r8 j91 s70 c0 (by omega) (by omega) hS70 (fr_tr (fr_tr hF0 f9 (by decide)) f71 (by decide)) hC0 hG0 (show (s70 3050) = 0 → (s70 3061) ≤ (s70 3059) ∧ (0 < (s70 3059) → (2 ≤ (s70 3060) ∧ (s70 3060) ≤ 16) ∧ (1 ≤ (s70 3057) ∧ (s70 3057) ≤ 64) ∧ (1 ≤ (s70 3058) ∧ (s70 3058) ≤ 64)) by omega) (show (s70 3050) = 0 → j91 = 0 → 0 < (s70 3059) by omega) (show (s70 3050) = 0 → (s70 3049) ≤ 32769 by omega) (show (if j91 = 1 ∧ (s70 3050) = 0 then 32770 - (s70 3049) else 0).toNat < m by omega)
              · show tt Zi d 186 (91, [some (.inr (.inl 30)), some (.inl r8), some (.inl j91)], [], n, D, s70, p, c0) _
                refine tt_k 2 (S' := (95, [some (.inr (.inl 30)), some (.inl r8), some (.inl j91)], [.inl (s70 3050)], n, D, s70, p, c0)) rfl ?_
                refine tz_ne (x := (s70 3050)) rfl rfl (by omega) (fun h96 => ?_) (fun h96 => ?_)
                · show tt Zi d 186 (32, [some (.inr (.inl 30)), some (.inl r8), some (.inl j91)], [], n, D, s70, p, c0) _
                  exact ih r8 j91 s70 c0 (by omega) (by omega) hS70 (fr_tr (fr_tr hF0 f9 (by decide)) f71 (by decide)) hC0 hG0 (show (s70 3050) = 0 → (s70 3061) ≤ (s70 3059) ∧ (0 < (s70 3059) → (2 ≤ (s70 3060) ∧ (s70 3060) ≤ 16) ∧ (1 ≤ (s70 3057) ∧ (s70 3057) ≤ 64) ∧ (1 ≤ (s70 3058) ∧ (s70 3058) ≤ 64)) by omega) (show (s70 3050) = 0 → j91 = 0 → 0 < (s70 3059) by omega) (show (s70 3050) = 0 → (s70 3049) ≤ 32769 by omega) (show (if j91 = 1 ∧ (s70 3050) = 0 then 32770 - (s70 3049) else 0).toNat < m by omega)
                · show tt Zi d 186 (98, [some (.inr (.inl 30)), some (.inl r8), some (.inl j91)], [], n, D, s70, p, c0) _
                  refine tt_k 2 (S' := (100, [some (.inr (.inl 30)), some (.inl r8), some (.inl j91)], [.inl r8, .inr (.inl 30)], n, D, s70, p, c0)) rfl ?_
                  refine tt_cl (by omega) rfl (k_section (Zi := Zi) (D := D) (s := s70) (p := p) (c := c0) (by omega) hS70 hC0 r8 (by omega) (show (s70 3050) = 0 by omega) (show (s70 3061) ≤ (s70 3059) ∧ (0 < (s70 3059) → (2 ≤ (s70 3060) ∧ (s70 3060) ≤ 16) ∧ (1 ≤ (s70 3057) ∧ (s70 3057) ≤ 64) ∧ (1 ≤ (s70 3058) ∧ (s70 3058) ≤ 64)) by omega) (show r8 = 247 → (s70 3059) = 0 by omega) (show r8 = 218 → (s70 3061) < (s70 3059) by omega)) ?_
                  rintro _ _ ⟨s97, c98, rfl, rfl, hS97, hC98, f99, g100, k101, k102⟩
                  show tt Zi d 186 (103, [some (.inr (.inl 30)), some (.inl r8), some (.inl j91)], [], n, D, s97, p, c98) _
                  replace k101 : (s70 3049) ≤ (s97 3049) := k101
                  replace k102 : (s97 3050) = 0 → (s97 3061) ≤ (s97 3059) ∧ (0 < (s97 3059) → (2 ≤ (s97 3060) ∧ (s97 3060) ≤ 16) ∧ (1 ≤ (s97 3057) ∧ (s97 3057) ≤ 64) ∧ (1 ≤ (s97 3058) ∧ (s97 3058) ≤ 64)) := k102
                  have b103 : 0 ≤ (s97 3049) ∧ (s97 3049) ≤ 32769 := hS97 3049
                  have b104 : 0 ≤ (s97 3050) ∧ (s97 3050) ≤ 8 := hS97 3050
                  have b105 : 0 ≤ (s97 3061) ∧ (s97 3061) ≤ 3 := hS97 3061
                  have b106 : 0 ≤ (s97 3059) ∧ (s97 3059) ≤ 3 := hS97 3059
                  have b107 : 0 ≤ (s97 3060) ∧ (s97 3060) ≤ 255 := hS97 3060
                  have b108 : 0 ≤ (s97 3057) ∧ (s97 3057) ≤ 65535 := hS97 3057
                  have b109 : 0 ≤ (s97 3058) ∧ (s97 3058) ≤ 65535 := hS97 3058
                  have e110 : s97 3014 = (s70 3014) := (f99 3014 (by decide))
                  have b111 : 0 ≤ (s97 3014) ∧ (s97 3014) ≤ 32768 := hS97 3014
                  refine tt_k 1 (S' := (32, [some (.inr (.inl 30)), some (.inl r8), some (.inl j91)], [], n, D, s97, p, c98)) rfl ?_
                  exact ih r8 j91 s97 c98 (by omega) (by omega) hS97 (fr_tr (fr_tr (fr_tr hF0 f9 (by decide)) f71 (by decide)) f99 (by decide)) hC98 (frc_tr hG0 g100 (by decide)) (show (s97 3050) = 0 → (s97 3061) ≤ (s97 3059) ∧ (0 < (s97 3059) → (2 ≤ (s97 3060) ∧ (s97 3060) ≤ 16) ∧ (1 ≤ (s97 3057) ∧ (s97 3057) ≤ 64) ∧ (1 ≤ (s97 3058) ∧ (s97 3058) ≤ 64)) by omega) (show (s97 3050) = 0 → j91 = 0 → 0 < (s97 3059) by omega) (show (s97 3050) = 0 → (s97 3049) ≤ 32769 by omega) (show (if j91 = 1 ∧ (s97 3050) = 0 then 32770 - (s97 3049) else 0).toNat < m by omega)
            refine tb_eq (x := r8) (y := 217) rfl rfl (by omega) (fun h112 => ?_) (fun h112 => ?_)
            · show tt Zi d 186 (85, [some (.inr (.inl 30)), some (.inl r8), some (.inl mo)], [], n, D, s70, p, c0) _
              refine tt_k 1 (S' := (86, [some (.inr (.inl 30)), some (.inl r8), some (.inl mo)], [.inl 0], n, D, s70, p, c0)) rfl ?_
              exact K92 0  (by omega) (Or.inl ⟨h112, rfl⟩)
            · show tt Zi d 186 (81, [some (.inr (.inl 30)), some (.inl r8), some (.inl mo)], [], n, D, s70, p, c0) _
              refine tt_k 2 (S' := (86, [some (.inr (.inl 30)), some (.inl r8), some (.inl mo)], [.inl 1], n, D, s70, p, c0)) rfl ?_
              exact K92 1  (by omega) (Or.inr (⟨h112, rfl⟩))
set_option maxRecDepth 100000 in
set_option maxHeartbeats 4000000 in
theorem k_readAll {Zi : Nat → Option (Nat × (Nat → Int))} {d n : Nat} {D : Nat → Nat × Nat} {s : Nat → Int} {p : Nat → Nat} {c : Nat → Nat → Int} (hd : 10 ≤ d) (hS : bS s) (hC : bC D c) (hp0 : s 3050 = 0) (hp1 : s 3061 ≤ s 3059 ∧ (0 < s 3059 → (2 ≤ s 3060 ∧ s 3060 ≤ 16) ∧ (1 ≤ s 3057 ∧ s 3057 ≤ 64) ∧ (1 ≤ s 3058 ∧ s 3058 ≤ 64))) : tt Zi d 186 (0, [some (.inr (.inl 30)), none, none], [], n, D, s, p, c) (fun R H => ∃ (s' : Nat → Int) (c' : Nat → Nat → Int), R = .inl none ∧ H = (n, D, s', p, c') ∧ bS s' ∧ bC D c' ∧ fr s s' [3017, 3018, 3019, 3020, 3021, 3022, 3023, 3024, 3025, 3026, 3035, 3036, 3037, 3038, 3039, 3041, 3042, 3043, 3044, 3045, 3046, 3049, 3050, 3051, 3052, 3053, 3054, 3057, 3058, 3059, 3060, 3061] ∧ frc c c' [36, 37, 38, 39, 40, 41, 42, 43, 44, 45, 46] ∧ (s' 3050 = 0 → 0 < s' 3059 ∧ (2 ≤ s' 3060 ∧ s' 3060 ≤ 16) ∧ (1 ≤ s' 3057 ∧ s' 3057 ≤ 64) ∧ (1 ≤ s' 3058 ∧ s' 3058 ≤ 64))) := by
  refine tt_k 1 (S' := (1, [some (.inr (.inl 30)), none, none], [.inr (.inl 30)], n, D, s, p, c)) rfl ?_
  refine tt_cl (by omega) rfl (k_nextMark (Zi := Zi) (D := D) (s := s) (p := p) (c := c) (by omega) hS hC ) ?_
  rintro _ _ ⟨s1, r2, rfl, rfl, hS1, f3, b4, k5, k6, k7⟩
  show tt Zi d 186 (4, [some (.inr (.inl 30)), none, none], [.inl r2], n, D, s1, p, c) _
  replace k5 : (s 3050) ≠ 0 → (s1 3050) ≠ 0 := k5
  replace k6 : (s1 3050) = 0 → (s 3049) + 2 ≤ (s1 3049) ∧ (s1 3049) ≤ (s 3014) := k6
  replace k7 : (s 3049) ≤ (s1 3049) := k7
  have b8 : 0 ≤ (s 3050) ∧ (s 3050) ≤ 8 := hS 3050
  have b9 : 0 ≤ (s1 3050) ∧ (s1 3050) ≤ 8 := hS1 3050
  have b10 : 0 ≤ (s 3049) ∧ (s 3049) ≤ 32769 := hS 3049
  have b11 : 0 ≤ (s 3014) ∧ (s 3014) ≤ 32768 := hS 3014
  have b12 : 0 ≤ (s1 3049) ∧ (s1 3049) ≤ 32769 := hS1 3049
  have e13 : s1 3061 = (s 3061) := (f3 3061 (by decide))
  have b14 : 0 ≤ (s1 3061) ∧ (s1 3061) ≤ 3 := hS1 3061
  have b15 : 0 ≤ (s 3061) ∧ (s 3061) ≤ 3 := hS 3061
  have e16 : s1 3059 = (s 3059) := (f3 3059 (by decide))
  have b17 : 0 ≤ (s1 3059) ∧ (s1 3059) ≤ 3 := hS1 3059
  have b18 : 0 ≤ (s 3059) ∧ (s 3059) ≤ 3 := hS 3059
  have e19 : s1 3060 = (s 3060) := (f3 3060 (by decide))
  have b20 : 0 ≤ (s1 3060) ∧ (s1 3060) ≤ 255 := hS1 3060
  have b21 : 0 ≤ (s 3060) ∧ (s 3060) ≤ 255 := hS 3060
  have e22 : s1 3057 = (s 3057) := (f3 3057 (by decide))
  have b23 : 0 ≤ (s1 3057) ∧ (s1 3057) ≤ 65535 := hS1 3057
  have b24 : 0 ≤ (s 3057) ∧ (s 3057) ≤ 65535 := hS 3057
  have e25 : s1 3058 = (s 3058) := (f3 3058 (by decide))
  have b26 : 0 ≤ (s1 3058) ∧ (s1 3058) ≤ 65535 := hS1 3058
  have b27 : 0 ≤ (s 3058) ∧ (s 3058) ≤ 65535 := hS 3058
  have e28 : s1 3014 = (s 3014) := (f3 3014 (by decide))
  have b29 : 0 ≤ (s1 3014) ∧ (s1 3014) ≤ 32768 := hS1 3014
  refine tt_k 3 (S' := (9, [some (.inr (.inl 30)), some (.inl r2), none], [.inl (s1 3050)], n, D, s1, p, c)) rfl ?_
  refine tz_ne (x := (s1 3050)) rfl rfl (by omega) (fun h30 => ?_) (fun h30 => ?_)
  · show tt Zi d 186 (30, [some (.inr (.inl 30)), some (.inl r2), none], [], n, D, s1, p, c) _
    refine tt_k 2 (S' := (32, [some (.inr (.inl 30)), some (.inl r2), some (.inl 1)], [], n, D, s1, p, c)) rfl ?_
    refine k_readAll_L32 (Zi := Zi) (D := D) (s := s1) (p := p) (c := c) hd hS1 hC    ?_ _ r2 1 s1 c (by omega) (by omega) hS1 fr_rf hC frc_rf (show (s1 3050) = 0 → (s1 3061) ≤ (s1 3059) ∧ (0 < (s1 3059) → (2 ≤ (s1 3060) ∧ (s1 3060) ≤ 16) ∧ (1 ≤ (s1 3057) ∧ (s1 3057) ≤ 64) ∧ (1 ≤ (s1 3058) ∧ (s1 3058) ≤ 64)) by omega) (show (s1 3050) = 0 → 1 = 0 → 0 < (s1 3059) by omega) (show (s1 3050) = 0 → (s1 3049) ≤ 32769 by omega) (Nat.lt_succ_self _)
    intro x31 x32 s33 c34 b35 b36 hS33 f37 hC34 g38 i39 i40 i41 hx42
    show tt Zi d 186 (106, [some (.inr (.inl 30)), some (.inl x31), some (.inl x32)], [], n, D, s33, p, c34) _
    replace i39 : (s33 3050) = 0 → (s33 3061) ≤ (s33 3059) ∧ (0 < (s33 3059) → (2 ≤ (s33 3060) ∧ (s33 3060) ≤ 16) ∧ (1 ≤ (s33 3057) ∧ (s33 3057) ≤ 64) ∧ (1 ≤ (s33 3058) ∧ (s33 3058) ≤ 64)) := i39
    replace i40 : (s33 3050) = 0 → x32 = 0 → 0 < (s33 3059) := i40
    replace i41 : (s33 3050) = 0 → (s33 3049) ≤ 32769 := i41
    replace hx42 : x32 = 0 ∨ (s33 3050) ≠ 0 := hx42
    have e43 : s33 3014 = (s1 3014) := (f37 3014 (by decide))
    have b44 : 0 ≤ (s33 3014) ∧ (s33 3014) ≤ 32768 := hS33 3014
    refine tt_k 2 (S' := (110, [some (.inr (.inl 30)), some (.inl x31), some (.inl x32)], [.inl (s33 3050)], n, D, s33, p, c34)) rfl ?_
    have b45 : 0 ≤ (s33 3050) ∧ (s33 3050) ≤ 8 := hS33 3050
    refine tz_ne (x := (s33 3050)) rfl rfl (by omega) (fun h46 => ?_) (fun h46 => ?_)
    · show tt Zi d 186 (134, [some (.inr (.inl 30)), some (.inl x31), some (.inl x32)], [], n, D, s33, p, c34) _
      exact tt_rtv rfl rfl ⟨s33, c34, rfl, rfl, hS33, hC34, (fr_tr (fr_tr fr_rf f3 (by decide)) f37 (by decide)), (frc_tr frc_rf g38 (by decide)), by show (s33 3050) = 0 → 0 < (s33 3059) ∧ (2 ≤ (s33 3060) ∧ (s33 3060) ≤ 16) ∧ (1 ≤ (s33 3057) ∧ (s33 3057) ≤ 64) ∧ (1 ≤ (s33 3058) ∧ (s33 3058) ≤ 64); omega⟩
    · show tt Zi d 186 (113, [some (.inr (.inl 30)), some (.inl x31), some (.inl x32)], [], n, D, s33, p, c34) _
      refine tt_k 4 (S' := (121, [some (.inr (.inl 30)), some (.inl x31), some (.inl x32)], [.inl (s33 3014), .inl (s33 3049)], n, D, s33, p, c34)) rfl ?_
      have b47 : 0 ≤ (s33 3049) ∧ (s33 3049) ≤ 32769 := hS33 3049
      refine tb_ge (x := (s33 3049)) (y := (s33 3014)) rfl rfl (by omega) (fun h48 => ?_) (fun h48 => ?_)
      · show tt Zi d 186 (134, [some (.inr (.inl 30)), some (.inl x31), some (.inl x32)], [], n, D, s33, p, c34) _
        exact tt_rtv rfl rfl ⟨s33, c34, rfl, rfl, hS33, hC34, (fr_tr (fr_tr fr_rf f3 (by decide)) f37 (by decide)), (frc_tr frc_rf g38 (by decide)), by show (s33 3050) = 0 → 0 < (s33 3059) ∧ (2 ≤ (s33 3060) ∧ (s33 3060) ≤ 16) ∧ (1 ≤ (s33 3057) ∧ (s33 3057) ≤ 64) ∧ (1 ≤ (s33 3058) ∧ (s33 3058) ≤ 64); omega⟩
      · show tt Zi d 186 (124, [some (.inr (.inl 30)), some (.inl x31), some (.inl x32)], [], n, D, s33, p, c34) _
        refine tt_k 4 (S' := (131, [some (.inr (.inl 30)), some (.inl x31), some (.inl x32)], [.inl (s33 3049), .inl 8, .inr (.inl 30)], n, D, s33, p, c34)) rfl ?_
        refine tt_cl (by omega) rfl (k_fail (Zi := Zi) (D := D) (s := s33) (p := p) (c := c34) (by omega) hS33 hC34 8 (s33 3049) (by omega) (by omega)) ?_
        rintro _ _ ⟨s49, rfl, rfl, hS49, f50, k51, k52⟩
        show tt Zi d 186 (134, [some (.inr (.inl 30)), some (.inl x31), some (.inl x32)], [], n, D, s49, p, c34) _
        replace k51 : ((s33 3050) = 0 → (s49 3050) = 8 ∧ (s49 3051) = (s33 3049)) := k51
        replace k52 : ((s33 3050) ≠ 0 → (s49 3050) = (s33 3050) ∧ (s49 3051) = (s33 3051)) := k52
        have b53 : 0 ≤ (s49 3050) ∧ (s49 3050) ≤ 8 := hS49 3050
        have b54 : -1 ≤ (s49 3051) ∧ (s49 3051) ≤ 32769 := hS49 3051
        have b55 : -1 ≤ (s33 3051) ∧ (s33 3051) ≤ 32769 := hS33 3051
        have e56 : s49 3049 = (s33 3049) := (f50 3049 (by decide))
        have b57 : 0 ≤ (s49 3049) ∧ (s49 3049) ≤ 32769 := hS49 3049
        have e58 : s49 3061 = (s33 3061) := (f50 3061 (by decide))
        have b59 : 0 ≤ (s49 3061) ∧ (s49 3061) ≤ 3 := hS49 3061
        have b60 : 0 ≤ (s33 3061) ∧ (s33 3061) ≤ 3 := hS33 3061
        have e61 : s49 3059 = (s33 3059) := (f50 3059 (by decide))
        have b62 : 0 ≤ (s49 3059) ∧ (s49 3059) ≤ 3 := hS49 3059
        have b63 : 0 ≤ (s33 3059) ∧ (s33 3059) ≤ 3 := hS33 3059
        have e64 : s49 3060 = (s33 3060) := (f50 3060 (by decide))
        have b65 : 0 ≤ (s49 3060) ∧ (s49 3060) ≤ 255 := hS49 3060
        have b66 : 0 ≤ (s33 3060) ∧ (s33 3060) ≤ 255 := hS33 3060
        have e67 : s49 3057 = (s33 3057) := (f50 3057 (by decide))
        have b68 : 0 ≤ (s49 3057) ∧ (s49 3057) ≤ 65535 := hS49 3057
        have b69 : 0 ≤ (s33 3057) ∧ (s33 3057) ≤ 65535 := hS33 3057
        have e70 : s49 3058 = (s33 3058) := (f50 3058 (by decide))
        have b71 : 0 ≤ (s49 3058) ∧ (s49 3058) ≤ 65535 := hS49 3058
        have b72 : 0 ≤ (s33 3058) ∧ (s33 3058) ≤ 65535 := hS33 3058
        have e73 : s49 3014 = (s33 3014) := (f50 3014 (by decide))
        have b74 : 0 ≤ (s49 3014) ∧ (s49 3014) ≤ 32768 := hS49 3014
        exact tt_rtv rfl rfl ⟨s49, c34, rfl, rfl, hS49, hC34, (fr_tr (fr_tr (fr_tr fr_rf f3 (by decide)) f37 (by decide)) f50 (by decide)), (frc_tr frc_rf g38 (by decide)), by show (s49 3050) = 0 → 0 < (s49 3059) ∧ (2 ≤ (s49 3060) ∧ (s49 3060) ≤ 16) ∧ (1 ≤ (s49 3057) ∧ (s49 3057) ≤ 64) ∧ (1 ≤ (s49 3058) ∧ (s49 3058) ≤ 64); omega⟩
  · show tt Zi d 186 (12, [some (.inr (.inl 30)), some (.inl r2), none], [], n, D, s1, p, c) _
    refine tt_k 2 (S' := (16, [some (.inr (.inl 30)), some (.inl r2), none], [.inl 216, .inl r2], n, D, s1, p, c)) rfl ?_
    refine tb_eq (x := r2) (y := 216) rfl rfl (by omega) (fun h75 => ?_) (fun h75 => ?_)
    · show tt Zi d 186 (30, [some (.inr (.inl 30)), some (.inl r2), none], [], n, D, s1, p, c) _
      refine tt_k 2 (S' := (32, [some (.inr (.inl 30)), some (.inl r2), some (.inl 1)], [], n, D, s1, p, c)) rfl ?_
      refine k_readAll_L32 (Zi := Zi) (D := D) (s := s1) (p := p) (c := c) hd hS1 hC    ?_ _ r2 1 s1 c (by omega) (by omega) hS1 fr_rf hC frc_rf (show (s1 3050) = 0 → (s1 3061) ≤ (s1 3059) ∧ (0 < (s1 3059) → (2 ≤ (s1 3060) ∧ (s1 3060) ≤ 16) ∧ (1 ≤ (s1 3057) ∧ (s1 3057) ≤ 64) ∧ (1 ≤ (s1 3058) ∧ (s1 3058) ≤ 64)) by omega) (show (s1 3050) = 0 → 1 = 0 → 0 < (s1 3059) by omega) (show (s1 3050) = 0 → (s1 3049) ≤ 32769 by omega) (Nat.lt_succ_self _)
      intro x76 x77 s78 c79 b80 b81 hS78 f82 hC79 g83 i84 i85 i86 hx87
      show tt Zi d 186 (106, [some (.inr (.inl 30)), some (.inl x76), some (.inl x77)], [], n, D, s78, p, c79) _
      replace i84 : (s78 3050) = 0 → (s78 3061) ≤ (s78 3059) ∧ (0 < (s78 3059) → (2 ≤ (s78 3060) ∧ (s78 3060) ≤ 16) ∧ (1 ≤ (s78 3057) ∧ (s78 3057) ≤ 64) ∧ (1 ≤ (s78 3058) ∧ (s78 3058) ≤ 64)) := i84
      replace i85 : (s78 3050) = 0 → x77 = 0 → 0 < (s78 3059) := i85
      replace i86 : (s78 3050) = 0 → (s78 3049) ≤ 32769 := i86
      replace hx87 : x77 = 0 ∨ (s78 3050) ≠ 0 := hx87
      have e88 : s78 3014 = (s1 3014) := (f82 3014 (by decide))
      have b89 : 0 ≤ (s78 3014) ∧ (s78 3014) ≤ 32768 := hS78 3014
      refine tt_k 2 (S' := (110, [some (.inr (.inl 30)), some (.inl x76), some (.inl x77)], [.inl (s78 3050)], n, D, s78, p, c79)) rfl ?_
      have b90 : 0 ≤ (s78 3050) ∧ (s78 3050) ≤ 8 := hS78 3050
      refine tz_ne (x := (s78 3050)) rfl rfl (by omega) (fun h91 => ?_) (fun h91 => ?_)
      · show tt Zi d 186 (134, [some (.inr (.inl 30)), some (.inl x76), some (.inl x77)], [], n, D, s78, p, c79) _
        exact tt_rtv rfl rfl ⟨s78, c79, rfl, rfl, hS78, hC79, (fr_tr (fr_tr fr_rf f3 (by decide)) f82 (by decide)), (frc_tr frc_rf g83 (by decide)), by show (s78 3050) = 0 → 0 < (s78 3059) ∧ (2 ≤ (s78 3060) ∧ (s78 3060) ≤ 16) ∧ (1 ≤ (s78 3057) ∧ (s78 3057) ≤ 64) ∧ (1 ≤ (s78 3058) ∧ (s78 3058) ≤ 64); omega⟩
      · show tt Zi d 186 (113, [some (.inr (.inl 30)), some (.inl x76), some (.inl x77)], [], n, D, s78, p, c79) _
        refine tt_k 4 (S' := (121, [some (.inr (.inl 30)), some (.inl x76), some (.inl x77)], [.inl (s78 3014), .inl (s78 3049)], n, D, s78, p, c79)) rfl ?_
        have b92 : 0 ≤ (s78 3049) ∧ (s78 3049) ≤ 32769 := hS78 3049
        refine tb_ge (x := (s78 3049)) (y := (s78 3014)) rfl rfl (by omega) (fun h93 => ?_) (fun h93 => ?_)
        · show tt Zi d 186 (134, [some (.inr (.inl 30)), some (.inl x76), some (.inl x77)], [], n, D, s78, p, c79) _
          exact tt_rtv rfl rfl ⟨s78, c79, rfl, rfl, hS78, hC79, (fr_tr (fr_tr fr_rf f3 (by decide)) f82 (by decide)), (frc_tr frc_rf g83 (by decide)), by show (s78 3050) = 0 → 0 < (s78 3059) ∧ (2 ≤ (s78 3060) ∧ (s78 3060) ≤ 16) ∧ (1 ≤ (s78 3057) ∧ (s78 3057) ≤ 64) ∧ (1 ≤ (s78 3058) ∧ (s78 3058) ≤ 64); omega⟩
        · show tt Zi d 186 (124, [some (.inr (.inl 30)), some (.inl x76), some (.inl x77)], [], n, D, s78, p, c79) _
          refine tt_k 4 (S' := (131, [some (.inr (.inl 30)), some (.inl x76), some (.inl x77)], [.inl (s78 3049), .inl 8, .inr (.inl 30)], n, D, s78, p, c79)) rfl ?_
          refine tt_cl (by omega) rfl (k_fail (Zi := Zi) (D := D) (s := s78) (p := p) (c := c79) (by omega) hS78 hC79 8 (s78 3049) (by omega) (by omega)) ?_
          rintro _ _ ⟨s94, rfl, rfl, hS94, f95, k96, k97⟩
          show tt Zi d 186 (134, [some (.inr (.inl 30)), some (.inl x76), some (.inl x77)], [], n, D, s94, p, c79) _
          replace k96 : ((s78 3050) = 0 → (s94 3050) = 8 ∧ (s94 3051) = (s78 3049)) := k96
          replace k97 : ((s78 3050) ≠ 0 → (s94 3050) = (s78 3050) ∧ (s94 3051) = (s78 3051)) := k97
          have b98 : 0 ≤ (s94 3050) ∧ (s94 3050) ≤ 8 := hS94 3050
          have b99 : -1 ≤ (s94 3051) ∧ (s94 3051) ≤ 32769 := hS94 3051
          have b100 : -1 ≤ (s78 3051) ∧ (s78 3051) ≤ 32769 := hS78 3051
          have e101 : s94 3049 = (s78 3049) := (f95 3049 (by decide))
          have b102 : 0 ≤ (s94 3049) ∧ (s94 3049) ≤ 32769 := hS94 3049
          have e103 : s94 3061 = (s78 3061) := (f95 3061 (by decide))
          have b104 : 0 ≤ (s94 3061) ∧ (s94 3061) ≤ 3 := hS94 3061
          have b105 : 0 ≤ (s78 3061) ∧ (s78 3061) ≤ 3 := hS78 3061
          have e106 : s94 3059 = (s78 3059) := (f95 3059 (by decide))
          have b107 : 0 ≤ (s94 3059) ∧ (s94 3059) ≤ 3 := hS94 3059
          have b108 : 0 ≤ (s78 3059) ∧ (s78 3059) ≤ 3 := hS78 3059
          have e109 : s94 3060 = (s78 3060) := (f95 3060 (by decide))
          have b110 : 0 ≤ (s94 3060) ∧ (s94 3060) ≤ 255 := hS94 3060
          have b111 : 0 ≤ (s78 3060) ∧ (s78 3060) ≤ 255 := hS78 3060
          have e112 : s94 3057 = (s78 3057) := (f95 3057 (by decide))
          have b113 : 0 ≤ (s94 3057) ∧ (s94 3057) ≤ 65535 := hS94 3057
          have b114 : 0 ≤ (s78 3057) ∧ (s78 3057) ≤ 65535 := hS78 3057
          have e115 : s94 3058 = (s78 3058) := (f95 3058 (by decide))
          have b116 : 0 ≤ (s94 3058) ∧ (s94 3058) ≤ 65535 := hS94 3058
          have b117 : 0 ≤ (s78 3058) ∧ (s78 3058) ≤ 65535 := hS78 3058
          have e118 : s94 3014 = (s78 3014) := (f95 3014 (by decide))
          have b119 : 0 ≤ (s94 3014) ∧ (s94 3014) ≤ 32768 := hS94 3014
          exact tt_rtv rfl rfl ⟨s94, c79, rfl, rfl, hS94, hC79, (fr_tr (fr_tr (fr_tr fr_rf f3 (by decide)) f82 (by decide)) f95 (by decide)), (frc_tr frc_rf g83 (by decide)), by show (s94 3050) = 0 → 0 < (s94 3059) ∧ (2 ≤ (s94 3060) ∧ (s94 3060) ≤ 16) ∧ (1 ≤ (s94 3057) ∧ (s94 3057) ≤ 64) ∧ (1 ≤ (s94 3058) ∧ (s94 3058) ≤ 64); omega⟩
    · show tt Zi d 186 (19, [some (.inr (.inl 30)), some (.inl r2), none], [], n, D, s1, p, c) _
      refine tt_k 6 (S' := (27, [some (.inr (.inl 30)), some (.inl r2), none], [.inl ((s1 3049) - 1), .inl 3, .inr (.inl 30)], n, D, s1, p, c)) rfl ?_
      refine tt_cl (by omega) rfl (k_fail (Zi := Zi) (D := D) (s := s1) (p := p) (c := c) (by omega) hS1 hC 3 ((s1 3049) - 1) (by omega) (by omega)) ?_
      rintro _ _ ⟨s120, rfl, rfl, hS120, f121, k122, k123⟩
      show tt Zi d 186 (30, [some (.inr (.inl 30)), some (.inl r2), none], [], n, D, s120, p, c) _
      replace k122 : ((s1 3050) = 0 → (s120 3050) = 3 ∧ (s120 3051) = ((s1 3049) - 1)) := k122
      replace k123 : ((s1 3050) ≠ 0 → (s120 3050) = (s1 3050) ∧ (s120 3051) = (s1 3051)) := k123
      have b124 : 0 ≤ (s120 3050) ∧ (s120 3050) ≤ 8 := hS120 3050
      have b125 : -1 ≤ (s120 3051) ∧ (s120 3051) ≤ 32769 := hS120 3051
      have b126 : -1 ≤ (s1 3051) ∧ (s1 3051) ≤ 32769 := hS1 3051
      have e127 : s120 3049 = (s1 3049) := (f121 3049 (by decide))
      have b128 : 0 ≤ (s120 3049) ∧ (s120 3049) ≤ 32769 := hS120 3049
      have e129 : s120 3061 = (s1 3061) := (f121 3061 (by decide))
      have b130 : 0 ≤ (s120 3061) ∧ (s120 3061) ≤ 3 := hS120 3061
      have e131 : s120 3059 = (s1 3059) := (f121 3059 (by decide))
      have b132 : 0 ≤ (s120 3059) ∧ (s120 3059) ≤ 3 := hS120 3059
      have e133 : s120 3060 = (s1 3060) := (f121 3060 (by decide))
      have b134 : 0 ≤ (s120 3060) ∧ (s120 3060) ≤ 255 := hS120 3060
      have e135 : s120 3057 = (s1 3057) := (f121 3057 (by decide))
      have b136 : 0 ≤ (s120 3057) ∧ (s120 3057) ≤ 65535 := hS120 3057
      have e137 : s120 3058 = (s1 3058) := (f121 3058 (by decide))
      have b138 : 0 ≤ (s120 3058) ∧ (s120 3058) ≤ 65535 := hS120 3058
      have e139 : s120 3014 = (s1 3014) := (f121 3014 (by decide))
      have b140 : 0 ≤ (s120 3014) ∧ (s120 3014) ≤ 32768 := hS120 3014
      refine tt_k 2 (S' := (32, [some (.inr (.inl 30)), some (.inl r2), some (.inl 1)], [], n, D, s120, p, c)) rfl ?_
      refine k_readAll_L32 (Zi := Zi) (D := D) (s := s120) (p := p) (c := c) hd hS120 hC    ?_ _ r2 1 s120 c (by omega) (by omega) hS120 fr_rf hC frc_rf (show (s120 3050) = 0 → (s120 3061) ≤ (s120 3059) ∧ (0 < (s120 3059) → (2 ≤ (s120 3060) ∧ (s120 3060) ≤ 16) ∧ (1 ≤ (s120 3057) ∧ (s120 3057) ≤ 64) ∧ (1 ≤ (s120 3058) ∧ (s120 3058) ≤ 64)) by omega) (show (s120 3050) = 0 → 1 = 0 → 0 < (s120 3059) by omega) (show (s120 3050) = 0 → (s120 3049) ≤ 32769 by omega) (Nat.lt_succ_self _)
      intro x141 x142 s143 c144 b145 b146 hS143 f147 hC144 g148 i149 i150 i151 hx152
      show tt Zi d 186 (106, [some (.inr (.inl 30)), some (.inl x141), some (.inl x142)], [], n, D, s143, p, c144) _
      replace i149 : (s143 3050) = 0 → (s143 3061) ≤ (s143 3059) ∧ (0 < (s143 3059) → (2 ≤ (s143 3060) ∧ (s143 3060) ≤ 16) ∧ (1 ≤ (s143 3057) ∧ (s143 3057) ≤ 64) ∧ (1 ≤ (s143 3058) ∧ (s143 3058) ≤ 64)) := i149
      replace i150 : (s143 3050) = 0 → x142 = 0 → 0 < (s143 3059) := i150
      replace i151 : (s143 3050) = 0 → (s143 3049) ≤ 32769 := i151
      replace hx152 : x142 = 0 ∨ (s143 3050) ≠ 0 := hx152
      have e153 : s143 3014 = (s120 3014) := (f147 3014 (by decide))
      have b154 : 0 ≤ (s143 3014) ∧ (s143 3014) ≤ 32768 := hS143 3014
      refine tt_k 2 (S' := (110, [some (.inr (.inl 30)), some (.inl x141), some (.inl x142)], [.inl (s143 3050)], n, D, s143, p, c144)) rfl ?_
      have b155 : 0 ≤ (s143 3050) ∧ (s143 3050) ≤ 8 := hS143 3050
      refine tz_ne (x := (s143 3050)) rfl rfl (by omega) (fun h156 => ?_) (fun h156 => ?_)
      · show tt Zi d 186 (134, [some (.inr (.inl 30)), some (.inl x141), some (.inl x142)], [], n, D, s143, p, c144) _
        exact tt_rtv rfl rfl ⟨s143, c144, rfl, rfl, hS143, hC144, (fr_tr (fr_tr (fr_tr fr_rf f3 (by decide)) f121 (by decide)) f147 (by decide)), (frc_tr frc_rf g148 (by decide)), by show (s143 3050) = 0 → 0 < (s143 3059) ∧ (2 ≤ (s143 3060) ∧ (s143 3060) ≤ 16) ∧ (1 ≤ (s143 3057) ∧ (s143 3057) ≤ 64) ∧ (1 ≤ (s143 3058) ∧ (s143 3058) ≤ 64); omega⟩
      · show tt Zi d 186 (113, [some (.inr (.inl 30)), some (.inl x141), some (.inl x142)], [], n, D, s143, p, c144) _
        refine tt_k 4 (S' := (121, [some (.inr (.inl 30)), some (.inl x141), some (.inl x142)], [.inl (s143 3014), .inl (s143 3049)], n, D, s143, p, c144)) rfl ?_
        have b157 : 0 ≤ (s143 3049) ∧ (s143 3049) ≤ 32769 := hS143 3049
        refine tb_ge (x := (s143 3049)) (y := (s143 3014)) rfl rfl (by omega) (fun h158 => ?_) (fun h158 => ?_)
        · show tt Zi d 186 (134, [some (.inr (.inl 30)), some (.inl x141), some (.inl x142)], [], n, D, s143, p, c144) _
          exact tt_rtv rfl rfl ⟨s143, c144, rfl, rfl, hS143, hC144, (fr_tr (fr_tr (fr_tr fr_rf f3 (by decide)) f121 (by decide)) f147 (by decide)), (frc_tr frc_rf g148 (by decide)), by show (s143 3050) = 0 → 0 < (s143 3059) ∧ (2 ≤ (s143 3060) ∧ (s143 3060) ≤ 16) ∧ (1 ≤ (s143 3057) ∧ (s143 3057) ≤ 64) ∧ (1 ≤ (s143 3058) ∧ (s143 3058) ≤ 64); omega⟩
        · show tt Zi d 186 (124, [some (.inr (.inl 30)), some (.inl x141), some (.inl x142)], [], n, D, s143, p, c144) _
          refine tt_k 4 (S' := (131, [some (.inr (.inl 30)), some (.inl x141), some (.inl x142)], [.inl (s143 3049), .inl 8, .inr (.inl 30)], n, D, s143, p, c144)) rfl ?_
          refine tt_cl (by omega) rfl (k_fail (Zi := Zi) (D := D) (s := s143) (p := p) (c := c144) (by omega) hS143 hC144 8 (s143 3049) (by omega) (by omega)) ?_
          rintro _ _ ⟨s159, rfl, rfl, hS159, f160, k161, k162⟩
          show tt Zi d 186 (134, [some (.inr (.inl 30)), some (.inl x141), some (.inl x142)], [], n, D, s159, p, c144) _
          replace k161 : ((s143 3050) = 0 → (s159 3050) = 8 ∧ (s159 3051) = (s143 3049)) := k161
          replace k162 : ((s143 3050) ≠ 0 → (s159 3050) = (s143 3050) ∧ (s159 3051) = (s143 3051)) := k162
          have b163 : 0 ≤ (s159 3050) ∧ (s159 3050) ≤ 8 := hS159 3050
          have b164 : -1 ≤ (s159 3051) ∧ (s159 3051) ≤ 32769 := hS159 3051
          have b165 : -1 ≤ (s143 3051) ∧ (s143 3051) ≤ 32769 := hS143 3051
          have e166 : s159 3049 = (s143 3049) := (f160 3049 (by decide))
          have b167 : 0 ≤ (s159 3049) ∧ (s159 3049) ≤ 32769 := hS159 3049
          have e168 : s159 3061 = (s143 3061) := (f160 3061 (by decide))
          have b169 : 0 ≤ (s159 3061) ∧ (s159 3061) ≤ 3 := hS159 3061
          have b170 : 0 ≤ (s143 3061) ∧ (s143 3061) ≤ 3 := hS143 3061
          have e171 : s159 3059 = (s143 3059) := (f160 3059 (by decide))
          have b172 : 0 ≤ (s159 3059) ∧ (s159 3059) ≤ 3 := hS159 3059
          have b173 : 0 ≤ (s143 3059) ∧ (s143 3059) ≤ 3 := hS143 3059
          have e174 : s159 3060 = (s143 3060) := (f160 3060 (by decide))
          have b175 : 0 ≤ (s159 3060) ∧ (s159 3060) ≤ 255 := hS159 3060
          have b176 : 0 ≤ (s143 3060) ∧ (s143 3060) ≤ 255 := hS143 3060
          have e177 : s159 3057 = (s143 3057) := (f160 3057 (by decide))
          have b178 : 0 ≤ (s159 3057) ∧ (s159 3057) ≤ 65535 := hS159 3057
          have b179 : 0 ≤ (s143 3057) ∧ (s143 3057) ≤ 65535 := hS143 3057
          have e180 : s159 3058 = (s143 3058) := (f160 3058 (by decide))
          have b181 : 0 ≤ (s159 3058) ∧ (s159 3058) ≤ 65535 := hS159 3058
          have b182 : 0 ≤ (s143 3058) ∧ (s143 3058) ≤ 65535 := hS143 3058
          have e183 : s159 3014 = (s143 3014) := (f160 3014 (by decide))
          have b184 : 0 ≤ (s159 3014) ∧ (s159 3014) ≤ 32768 := hS159 3014
          exact tt_rtv rfl rfl ⟨s159, c144, rfl, rfl, hS159, hC144, (fr_tr (fr_tr (fr_tr (fr_tr fr_rf f3 (by decide)) f121 (by decide)) f147 (by decide)) f160 (by decide)), (frc_tr frc_rf g148 (by decide)), by show (s159 3050) = 0 → 0 < (s159 3059) ∧ (2 ≤ (s159 3060) ∧ (s159 3060) ≤ 16) ∧ (1 ≤ (s159 3057) ∧ (s159 3057) ≤ 64) ∧ (1 ≤ (s159 3058) ∧ (s159 3058) ≤ 64); omega⟩
set_option maxRecDepth 100000 in
set_option maxHeartbeats 4000000 in
theorem k_unpack_L32 {Zi : Nat → Option (Nat × (Nat → Int))} {d n : Nat} {D : Nat → Nat × Nat} {s : Nat → Int} {p : Nat → Nat} {c : Nat → Nat → Int}  {Q : mi_Rs → mi_H → Prop} (hd : 11 ≤ d) (hS : bS s) (hC : bC D c) 
  (hK : ∀ (k_ : Int) (c0 : Nat → Nat → Int) (b_k_ : 0 ≤ k_ ∧ k_ ≤ 5) (hC0 : bC D c0) (hG0 : frc c c0 [46]), (True) → tt Zi d 185 (50, [some (.inr (.inl 30)), some (.inl k_)], [], n, D, s, p, c0) Q) :
  ∀ (m : Nat) (k_ : Int) (c0 : Nat → Nat → Int) (b_k_ : 0 ≤ k_ ∧ k_ ≤ 5) (hC0 : bC D c0) (hG0 : frc c c0 [46]), (5 - k_).toNat < m → tt Zi d 185 (32, [some (.inr (.inl 30)), some (.inl k_)], [], n, D, s, p, c0) Q := by
  intro m
  induction m with
  | zero => intro k_ c0 b_k_ hC0 hG0 hm; exact absurd hm (by omega)
  | succ m ih =>
    intro k_ c0 b_k_ hC0 hG0 hm
    refine tt_k 2 (S' := (34, [some (.inr (.inl 30)), some (.inl k_)], [.inl 5, .inl k_], n, D, s, p, c0)) rfl ?_
    refine tb_ge (x := k_) (y := 5) rfl rfl (by omega) (fun h1 => ?_) (fun h1 => ?_)
    · show tt Zi d 185 (50, [some (.inr (.inl 30)), some (.inl k_)], [], n, D, s, p, c0) _
      exact hK k_ c0 (by omega) hC0 hG0 trivial
    · show tt Zi d 185 (37, [some (.inr (.inl 30)), some (.inl k_)], [], n, D, s, p, c0) _
      refine tt_k 4 (S' := (43, [some (.inr (.inl 30)), some (.inl k_)], [.inl 0, .inl k_, .inr (.inl 46)], n, D, s, p, c0)) rfl ?_
      refine tt_ist (i := k_) (x := 0) rfl rfl (by omega) ?_
      show tt Zi d 185 (44, [some (.inr (.inl 30)), some (.inl k_)], [], n, D, s, p, (uc c0 46 (ua (c0 46) (k_).toNat 0))) _
      refine tt_k 2 (S' := (32, [some (.inr (.inl 30)), some (.inl (k_ + 1))], [], n, D, s, p, (uc c0 46 (ua (c0 46) (k_).toNat 0)))) rfl ?_
      exact ih (k_ + 1) (uc c0 46 (ua (c0 46) (k_).toNat 0)) (by omega) (bC_st hC0 (show 0 ≤ 0 ∧ 0 ≤ 65535 by omega)) (frc_uc (by decide) hG0) (show (5 - (k_ + 1)).toNat < m by omega)

set_option maxRecDepth 100000 in
set_option maxHeartbeats 4000000 in
theorem k_unpack_L105 {Zi : Nat → Option (Nat × (Nat → Int))} {d n : Nat} {D : Nat → Nat × Nat} {s : Nat → Int} {p : Nat → Nat} {c : Nat → Nat → Int}  {Q : mi_Rs → mi_H → Prop} (hd : 11 ≤ d) (hS : bS s) (hC : bC D c) 
  (hK : ∀ (k_ : Int) (c0 : Nat → Nat → Int) (b_k_ : 0 ≤ k_ ∧ k_ ≤ 12288) (hC0 : bC D c0) (hG0 : frc c c0 [33]), (True) → tt Zi d 185 (130, [some (.inr (.inl 30)), some (.inl k_)], [], n, D, s, p, c0) Q) :
  ∀ (m : Nat) (k_ : Int) (c0 : Nat → Nat → Int) (b_k_ : 0 ≤ k_ ∧ k_ ≤ 12288) (hC0 : bC D c0) (hG0 : frc c c0 [33]), (12288 - k_).toNat < m → tt Zi d 185 (105, [some (.inr (.inl 30)), some (.inl k_)], [], n, D, s, p, c0) Q := by
  intro m
  induction m with
  | zero => intro k_ c0 b_k_ hC0 hG0 hm; exact absurd hm (by omega)
  | succ m ih =>
    intro k_ c0 b_k_ hC0 hG0 hm
    refine tt_k 2 (S' := (109, [some (.inr (.inl 30)), some (.inl k_)], [.inl 12288, .inl k_], n, D, s, p, c0)) rfl ?_
    refine tb_ge (x := k_) (y := 12288) rfl rfl (by omega) (fun h1 => ?_) (fun h1 => ?_)
    · show tt Zi d 185 (130, [some (.inr (.inl 30)), some (.inl k_)], [], n, D, s, p, c0) _
      exact hK k_ c0 (by omega) hC0 hG0 trivial
    · show tt Zi d 185 (112, [some (.inr (.inl 30)), some (.inl k_)], [], n, D, s, p, c0) _
      refine tt_k 6 (S' := (122, [some (.inr (.inl 30)), some (.inl k_)], [.inl k_, .inr (.inl 44), .inl k_, .inr (.inl 33)], n, D, s, p, c0)) rfl ?_
      refine tt_ildv (i := k_) (v := (c0 44 (k_).toNat)) rfl rfl (by omega) rfl ?_
      show tt Zi d 185 (123, [some (.inr (.inl 30)), some (.inl k_)], [.inl (c0 44 (k_).toNat), .inl k_, .inr (.inl 33)], n, D, s, p, c0) _
      have b2 : 0 ≤ (c0 44 (k_).toNat) ∧ (c0 44 (k_).toNat) ≤ 65535 := hC0 44 _
      refine tt_ist (i := k_) (x := (c0 44 (k_).toNat)) rfl rfl (by omega) ?_
      show tt Zi d 185 (124, [some (.inr (.inl 30)), some (.inl k_)], [], n, D, s, p, (uc c0 33 (ua (c0 33) (k_).toNat (c0 44 (k_).toNat)))) _
      refine tt_k 2 (S' := (105, [some (.inr (.inl 30)), some (.inl (k_ + 1))], [], n, D, s, p, (uc c0 33 (ua (c0 33) (k_).toNat (c0 44 (k_).toNat))))) rfl ?_
      exact ih (k_ + 1) (uc c0 33 (ua (c0 33) (k_).toNat (c0 44 (k_).toNat))) (by omega) (bC_st hC0 (show 0 ≤ (c0 44 (k_).toNat) ∧ (c0 44 (k_).toNat) ≤ 65535 by omega)) (frc_uc (by decide) hG0) (show (12288 - (k_ + 1)).toNat < m by omega)
set_option maxRecDepth 100000 in
set_option maxHeartbeats 4000000 in
theorem k_unpack {Zi : Nat → Option (Nat × (Nat → Int))} {d n : Nat} {D : Nat → Nat × Nat} {s : Nat → Int} {p : Nat → Nat} {c : Nat → Nat → Int} (hd : 11 ≤ d) (hS : bS s) (hC : bC D c)  : tt Zi d 185 (0, [some (.inr (.inl 30)), none], [], n, D, s, p, c) (fun R H => ∃ (s' : Nat → Int) (c' : Nat → Nat → Int) (r : Int), R = .inl (some (.inl r)) ∧ H = (n, D, s', p, c') ∧ bS s' ∧ bC D c' ∧ fr s s' [3000, 3007, 3008, 3009, 3010, 3011, 3017, 3018, 3019, 3020, 3021, 3022, 3023, 3024, 3025, 3026, 3035, 3036, 3037, 3038, 3039, 3041, 3042, 3043, 3044, 3045, 3046, 3049, 3050, 3051, 3052, 3053, 3054, 3057, 3058, 3059, 3060, 3061] ∧ frc c c' [33, 36, 37, 38, 39, 40, 41, 42, 43, 44, 45, 46] ∧ (0 ≤ r ∧ r ≤ 8)) := by
  refine tt_k 14 (S' := (22, [some (.inr (.inl 30)), none], [.inl 0, .inr (.inl 30)], n, D, (us (us (us (us s 3000 0) 3049 0) 3050 0) 3051 (-1)), p, c)) rfl ?_
  refine tt_k 6 (S' := (32, [some (.inr (.inl 30)), some (.inl 0)], [], n, D, (us (us (us (us (us (us s 3000 0) 3049 0) 3050 0) 3051 (-1)) 3059 0) 3061 0), p, c)) rfl ?_
  refine k_unpack_L32 (Zi := Zi) (D := D) (s := (us (us (us (us (us (us s 3000 0) 3049 0) 3050 0) 3051 (-1)) 3059 0) 3061 0)) (p := p) (c := c) hd (bS_us (bS_us (bS_us (bS_us (bS_us (bS_us hS (show 0 ≤ 0 ∧ 0 ≤ 2 by omega)) (show 0 ≤ 0 ∧ 0 ≤ 32769 by omega)) (show 0 ≤ 0 ∧ 0 ≤ 8 by omega)) (show -1 ≤ (-1) ∧ (-1) ≤ 32769 by omega)) (show 0 ≤ 0 ∧ 0 ≤ 3 by omega)) (show 0 ≤ 0 ∧ 0 ≤ 3 by omega)) hC    ?_ _ 0 c (by omega) hC frc_rf (Nat.lt_succ_self _)
  intro x1 c2 b3 hC2 g4 hx5
  show tt Zi d 185 (50, [some (.inr (.inl 30)), some (.inl x1)], [], n, D, (us (us (us (us (us (us s 3000 0) 3049 0) 3050 0) 3051 (-1)) 3059 0) 3061 0), p, c2) _
  refine tt_k 1 (S' := (51, [some (.inr (.inl 30)), some (.inl x1)], [.inr (.inl 30)], n, D, (us (us (us (us (us (us s 3000 0) 3049 0) 3050 0) 3051 (-1)) 3059 0) 3061 0), p, c2)) rfl ?_
  have b6 : 0 ≤ (s 3060) ∧ (s 3060) ≤ 255 := hS 3060
  have b7 : 0 ≤ (s 3057) ∧ (s 3057) ≤ 65535 := hS 3057
  have b8 : 0 ≤ (s 3058) ∧ (s 3058) ≤ 65535 := hS 3058
  refine tt_cl (by omega) rfl (k_readAll (Zi := Zi) (D := D) (s := (us (us (us (us (us (us s 3000 0) 3049 0) 3050 0) 3051 (-1)) 3059 0) 3061 0)) (p := p) (c := c2) (by omega) (bS_us (bS_us (bS_us (bS_us (bS_us (bS_us hS (show 0 ≤ 0 ∧ 0 ≤ 2 by omega)) (show 0 ≤ 0 ∧ 0 ≤ 32769 by omega)) (show 0 ≤ 0 ∧ 0 ≤ 8 by omega)) (show -1 ≤ (-1) ∧ (-1) ≤ 32769 by omega)) (show 0 ≤ 0 ∧ 0 ≤ 3 by omega)) (show 0 ≤ 0 ∧ 0 ≤ 3 by omega)) hC2 (show 0 = 0 by omega) (show 0 ≤ 0 ∧ (0 < 0 → (2 ≤ (s 3060) ∧ (s 3060) ≤ 16) ∧ (1 ≤ (s 3057) ∧ (s 3057) ≤ 64) ∧ (1 ≤ (s 3058) ∧ (s 3058) ≤ 64)) by omega)) ?_
  rintro _ _ ⟨s9, c10, rfl, rfl, hS9, hC10, f11, g12, k13⟩
  show tt Zi d 185 (54, [some (.inr (.inl 30)), some (.inl x1)], [], n, D, s9, p, c10) _
  replace k13 : (s9 3050) = 0 → 0 < (s9 3059) ∧ (2 ≤ (s9 3060) ∧ (s9 3060) ≤ 16) ∧ (1 ≤ (s9 3057) ∧ (s9 3057) ≤ 64) ∧ (1 ≤ (s9 3058) ∧ (s9 3058) ≤ 64) := k13
  have b14 : 0 ≤ (s9 3050) ∧ (s9 3050) ≤ 8 := hS9 3050
  have b15 : 0 ≤ (s9 3059) ∧ (s9 3059) ≤ 3 := hS9 3059
  have b16 : 0 ≤ (s9 3060) ∧ (s9 3060) ≤ 255 := hS9 3060
  have b17 : 0 ≤ (s9 3057) ∧ (s9 3057) ≤ 65535 := hS9 3057
  have b18 : 0 ≤ (s9 3058) ∧ (s9 3058) ≤ 65535 := hS9 3058
  refine tt_k 2 (S' := (58, [some (.inr (.inl 30)), some (.inl x1)], [.inl (s9 3050)], n, D, s9, p, c10)) rfl ?_
  refine tz_le (x := (s9 3050)) rfl rfl (by omega) (fun h19 => ?_) (fun h19 => ?_)
  · show tt Zi d 185 (66, [some (.inr (.inl 30)), some (.inl x1)], [], n, D, s9, p, c10) _
    refine tt_k 14 (S' := (92, [some (.inr (.inl 30)), some (.inl x1)], [.inl (s9 3059), .inr (.inl 30)], n, D, (us (us (us s9 3007 1) 3008 (s9 3057)) 3009 (s9 3058)), p, c10)) rfl ?_
    refine tt_k 7 (S' := (105, [some (.inr (.inl 30)), some (.inl 0)], [], n, D, (us (us (us (us (us s9 3007 1) 3008 (s9 3057)) 3009 (s9 3058)) 3010 (s9 3059)) 3011 (s9 3060)), p, c10)) rfl ?_
    refine k_unpack_L105 (Zi := Zi) (D := D) (s := (us (us (us (us (us s9 3007 1) 3008 (s9 3057)) 3009 (s9 3058)) 3010 (s9 3059)) 3011 (s9 3060))) (p := p) (c := c10) hd (bS_us (bS_us (bS_us (bS_us (bS_us hS9 (show 0 ≤ 1 ∧ 1 ≤ 1 by omega)) (show 0 ≤ (s9 3057) ∧ (s9 3057) ≤ 64 by omega)) (show 0 ≤ (s9 3058) ∧ (s9 3058) ≤ 64 by omega)) (show 0 ≤ (s9 3059) ∧ (s9 3059) ≤ 3 by omega)) (show 0 ≤ (s9 3060) ∧ (s9 3060) ≤ 255 by omega)) hC10    ?_ _ 0 c10 (by omega) hC10 frc_rf (Nat.lt_succ_self _)
    intro x20 c21 b22 hC21 g23 hx24
    show tt Zi d 185 (130, [some (.inr (.inl 30)), some (.inl x20)], [], n, D, (us (us (us (us (us s9 3007 1) 3008 (s9 3057)) 3009 (s9 3058)) 3010 (s9 3059)) 3011 (s9 3060)), p, c21) _
    refine tt_k 1 (S' := (131, [some (.inr (.inl 30)), some (.inl x20)], [.inl 0], n, D, (us (us (us (us (us s9 3007 1) 3008 (s9 3057)) 3009 (s9 3058)) 3010 (s9 3059)) 3011 (s9 3060)), p, c21)) rfl ?_
    exact tt_rti rfl rfl ⟨(us (us (us (us (us s9 3007 1) 3008 (s9 3057)) 3009 (s9 3058)) 3010 (s9 3059)) 3011 (s9 3060)), c21, 0, rfl, rfl, (bS_us (bS_us (bS_us (bS_us (bS_us hS9 (show 0 ≤ 1 ∧ 1 ≤ 1 by omega)) (show 0 ≤ (s9 3057) ∧ (s9 3057) ≤ 64 by omega)) (show 0 ≤ (s9 3058) ∧ (s9 3058) ≤ 64 by omega)) (show 0 ≤ (s9 3059) ∧ (s9 3059) ≤ 3 by omega)) (show 0 ≤ (s9 3060) ∧ (s9 3060) ≤ 255 by omega)), hC21, (fr_us (by decide) (fr_us (by decide) (fr_us (by decide) (fr_us (by decide) (fr_us (by decide) (fr_tr (fr_us (by decide) (fr_us (by decide) (fr_us (by decide) (fr_us (by decide) (fr_us (by decide) (fr_us (by decide) fr_rf)))))) f11 (by decide))))))), (frc_tr (frc_tr (frc_tr frc_rf g4 (by decide)) g12 (by decide)) g23 (by decide)), by omega⟩
  · show tt Zi d 185 (61, [some (.inr (.inl 30)), some (.inl x1)], [], n, D, s9, p, c10) _
    refine tt_k 2 (S' := (65, [some (.inr (.inl 30)), some (.inl x1)], [.inl (s9 3050)], n, D, s9, p, c10)) rfl ?_
    exact tt_rti rfl rfl ⟨s9, c10, (s9 3050), rfl, rfl, hS9, hC10, (fr_tr (fr_us (by decide) (fr_us (by decide) (fr_us (by decide) (fr_us (by decide) (fr_us (by decide) (fr_us (by decide) fr_rf)))))) f11 (by decide)), (frc_tr (frc_tr frc_rf g4 (by decide)) g12 (by decide)), by omega⟩
