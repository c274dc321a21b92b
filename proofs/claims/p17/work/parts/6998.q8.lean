/-! the reference reads a section, exactly -/
set_option maxRecDepth 100000 in
set_option maxHeartbeats 4000000 in
theorem v_section_L116 {Zi : Nat → Option (Nat × (Nat → Int))} {d n : Nat} {D : Nat → Nat × Nat} {s : Nat → Int} {p : Nat → Nat} {c : Nat → Nat → Int} {o_1 : Option mi_V} {o_2 : Option mi_V} {o_4 : Option mi_V} {Q : mi_Rs → mi_H → Prop} (hd : 9 ≤ d) (hS : bS s) (hC : bC D c) (A : TN) (aa : Int) (ln : Int) (b_ln : 0 ≤ ln ∧ ln ≤ 65535) (hq0 : tpl A (s 3014) (c 34)) (hq1 : 2 ≤ ln)
  (hK : ∀ (k_ : Int) (o_6 : Option mi_V) (s0 : Nat → Int) (b_k_ : 0 ≤ k_ ∧ k_ ≤ 65535) (hS0 : bS s0) (hF0 : fr s s0 [3049, 3050, 3051]) (i0 : s0 3050 = 0 → s0 3049 = aa + k_ ∧ s0 3049 ≤ s 3014) (i1 : s0 3050 ≠ 0 → A.2 ≤ aa + ln) (i2 : k_ ≤ ln) (i3 : aa + 2 ≤ s0 3049), (s0 3050 = 0 → ln ≤ k_) → tt Zi d 190 (141, [some (.inr (.inl 30)), o_1, o_2, some (.inl ln), o_4, some (.inl k_), o_6], [], n, D, s0, p, c) Q) :
  ∀ (m : Nat) (k_ : Int) (o_6 : Option mi_V) (s0 : Nat → Int) (b_k_ : 0 ≤ k_ ∧ k_ ≤ 65535) (hS0 : bS s0) (hF0 : fr s s0 [3049, 3050, 3051]) (i0 : s0 3050 = 0 → s0 3049 = aa + k_ ∧ s0 3049 ≤ s 3014) (i1 : s0 3050 ≠ 0 → A.2 ≤ aa + ln) (i2 : k_ ≤ ln) (i3 : aa + 2 ≤ s0 3049), (ln - k_).toNat < m → tt Zi d 190 (116, [some (.inr (.inl 30)), o_1, o_2, some (.inl ln), o_4, some (.inl k_), o_6], [], n, D, s0, p, c) Q := by
  intro m
  induction m with
  | zero => intro k_ o_6 s0 b_k_ hS0 hF0 i0 i1 i2 i3 hm; exact absurd hm (by omega)
  | succ m ih =>
    intro k_ o_6 s0 b_k_ hS0 hF0 i0 i1 i2 i3 hm
    have e1 : s0 3061 = s 3061 := hF0 3061 (by decide)
    have b2 : 0 ≤ (s0 3061) ∧ (s0 3061) ≤ 3 := hS0 3061
    have b3 : 0 ≤ (s 3061) ∧ (s 3061) ≤ 3 := hS 3061
    have e4 : s0 3059 = s 3059 := hF0 3059 (by decide)
    have b5 : 0 ≤ (s0 3059) ∧ (s0 3059) ≤ 3 := hS0 3059
    have b6 : 0 ≤ (s 3059) ∧ (s 3059) ≤ 3 := hS 3059
    have e7 : s0 3060 = s 3060 := hF0 3060 (by decide)
    have b8 : 0 ≤ (s0 3060) ∧ (s0 3060) ≤ 255 := hS0 3060
    have b9 : 0 ≤ (s 3060) ∧ (s 3060) ≤ 255 := hS 3060
    have e10 : s0 3057 = s 3057 := hF0 3057 (by decide)
    have b11 : 0 ≤ (s0 3057) ∧ (s0 3057) ≤ 65535 := hS0 3057
    have b12 : 0 ≤ (s 3057) ∧ (s 3057) ≤ 65535 := hS 3057
    have e13 : s0 3058 = s 3058 := hF0 3058 (by decide)
    have b14 : 0 ≤ (s0 3058) ∧ (s0 3058) ≤ 65535 := hS0 3058
    have b15 : 0 ≤ (s 3058) ∧ (s 3058) ≤ 65535 := hS 3058
    have e16 : s0 3014 = s 3014 := hF0 3014 (by decide)
    have b17 : 0 ≤ (s0 3014) ∧ (s0 3014) ≤ 32768 := hS0 3014
    have b18 : 0 ≤ (s 3014) ∧ (s 3014) ≤ 32768 := hS 3014
    have htp : tpl A (s0 3014) (c 34) := by rw [hF0 3014 (by decide)]; exact hq0
    have hA := hq0.1
    have b19 : 0 ≤ (s0 3050) ∧ (s0 3050) ≤ 8 := hS0 3050
    have b20 : 0 ≤ (s0 3049) ∧ (s0 3049) ≤ 32769 := hS0 3049
    refine tt_k 2 (S' := (119, [some (.inr (.inl 30)), o_1, o_2, some (.inl ln), o_4, some (.inl k_), o_6], [.inl ln, .inl k_], n, D, s0, p, c)) rfl ?_
    refine tb_ge (x := k_) (y := ln) rfl rfl (by omega) (fun h21 => ?_) (fun h21 => ?_)
    · show tt Zi d 190 (141, [some (.inr (.inl 30)), o_1, o_2, some (.inl ln), o_4, some (.inl k_), o_6], [], n, D, s0, p, c) _
      exact hK k_ (o_6) s0 (by omega) hS0 hF0 i0 i1 i2 i3 (by intro hz; omega)
    · show tt Zi d 190 (122, [some (.inr (.inl 30)), o_1, o_2, some (.inl ln), o_4, some (.inl k_), o_6], [], n, D, s0, p, c) _
      refine tt_k 2 (S' := (126, [some (.inr (.inl 30)), o_1, o_2, some (.inl ln), o_4, some (.inl k_), o_6], [.inl (s0 3050)], n, D, s0, p, c)) rfl ?_
      refine tz_ne (x := (s0 3050)) rfl rfl (by omega) (fun h22 => ?_) (fun h22 => ?_)
      · show tt Zi d 190 (141, [some (.inr (.inl 30)), o_1, o_2, some (.inl ln), o_4, some (.inl k_), o_6], [], n, D, s0, p, c) _
        exact hK k_ (o_6) s0 (by omega) hS0 hF0 i0 i1 i2 i3 (by intro hz; omega)
      · show tt Zi d 190 (129, [some (.inr (.inl 30)), o_1, o_2, some (.inl ln), o_4, some (.inl k_), o_6], [], n, D, s0, p, c) _
        refine tt_k 1 (S' := (130, [some (.inr (.inl 30)), o_1, o_2, some (.inl ln), o_4, some (.inl k_), o_6], [.inr (.inl 30)], n, D, s0, p, c)) rfl ?_
        refine tt_cl (by omega) rfl (v_nextByte (Zi := Zi) (D := D) (s := s0) (p := p) (c := c) (by omega) hS0 hC A htp) ?_
        rintro _ _ ⟨s23, r24, rfl, rfl, hS23, f25, b26, k27, k28, k29, k30⟩
        show tt Zi d 190 (133, [some (.inr (.inl 30)), o_1, o_2, some (.inl ln), o_4, some (.inl k_), o_6], [.inl r24], n, D, s23, p, c) _
        replace k27 : (s23 3050) = 0 → ((s0 3049) < A.2 ∧ gB A ((s0 3049)) = r24) ∧ (s23 3049) = (s0 3049) + 1 ∧ (s23 3049) ≤ (s0 3014) := k27
        replace k28 : (s0 3050) = 0 → (s23 3050) ≠ 0 → A.2 ≤ (s0 3049) := k28
        replace k29 : (s0 3050) ≠ 0 → (s23 3050) ≠ 0 := k29
        replace k30 : (s0 3049) ≤ (s23 3049) := k30
        have b31 : 0 ≤ (s23 3050) ∧ (s23 3050) ≤ 8 := hS23 3050
        have b32 : 0 ≤ (s23 3049) ∧ (s23 3049) ≤ 32769 := hS23 3049
        have e33 : s23 3061 = (s0 3061) := (f25 3061 (by decide))
        have b34 : 0 ≤ (s23 3061) ∧ (s23 3061) ≤ 3 := hS23 3061
        have e35 : s23 3059 = (s0 3059) := (f25 3059 (by decide))
        have b36 : 0 ≤ (s23 3059) ∧ (s23 3059) ≤ 3 := hS23 3059
        have e37 : s23 3060 = (s0 3060) := (f25 3060 (by decide))
        have b38 : 0 ≤ (s23 3060) ∧ (s23 3060) ≤ 255 := hS23 3060
        have e39 : s23 3057 = (s0 3057) := (f25 3057 (by decide))
        have b40 : 0 ≤ (s23 3057) ∧ (s23 3057) ≤ 65535 := hS23 3057
        have e41 : s23 3058 = (s0 3058) := (f25 3058 (by decide))
        have b42 : 0 ≤ (s23 3058) ∧ (s23 3058) ≤ 65535 := hS23 3058
        have e43 : s23 3014 = (s0 3014) := (f25 3014 (by decide))
        have b44 : 0 ≤ (s23 3014) ∧ (s23 3014) ≤ 32768 := hS23 3014
        have hx45 : tpl A (s23 3014) (c 34) := by rw [f25 3014 (by decide)]; exact htp
        refine tt_k 3 (S' := (116, [some (.inr (.inl 30)), o_1, o_2, some (.inl ln), o_4, some (.inl (k_ + 1)), some (.inl r24)], [], n, D, s23, p, c)) rfl ?_
        exact ih (k_ + 1) (some (.inl r24)) s23 (by omega) hS23 (fr_tr hF0 f25 (by decide)) (fun hf => by have h := k27 hf; omega) (fun hf => by have h := k28 (by omega) hf; omega) (show (k_ + 1) ≤ ln by omega) (show aa + 2 ≤ (s23 3049) by omega) (show (ln - (k_ + 1)).toNat < m by omega)
set_option maxRecDepth 100000 in
set_option maxHeartbeats 4000000 in
theorem v_section {Zi : Nat → Option (Nat × (Nat → Int))} {d n : Nat} {D : Nat → Nat × Nat} {s : Nat → Int} {p : Nat → Nat} {c : Nat → Nat → Int} (hd : 9 ≤ d) (hS : bS s) (hC : bC D c) (A : TN) (S : SR) (v : Int) (b_v : 0 ≤ v ∧ v ≤ 255) (hp0 : tpl A (s 3014) (c 34)) (hp1 : s 3050 = 0) (hp2 : rrS A (s 3059) (s 3061) (s 3057) (s 3058) (s 3060) (c 45) (c 46) (c 44) S) (hp3 : mrl S.2.2.2.2.2.1 (c 40) (c 41) (c 42) (c 43)) (hp4 : v ≠ 217 ∧ ((v = 247 ∧ s 3059 = 0) ∨ (v = 218 ∧ 0 < s 3059 ∧ s 3061 < s 3059) ∨ (v = 217 ∧ 0 < s 3059 ∧ s 3061 = s 3059) ∨ ((v ≠ 247 ∧ v ≠ 218 ∧ v ≠ 217) ∧ (v = 248 ∨ v = 254 ∨ (224 ≤ v ∧ v ≤ 239))))) : tt Zi d 190 (0, [some (.inr (.inl 30)), some (.inl v), none, none, none, none, none], [], n, D, s, p, c) (fun R H => ∃ (s' : Nat → Int) (c' : Nat → Nat → Int), R = .inl none ∧ H = (n, D, s', p, c') ∧ bS s' ∧ bC D c' ∧ fr s s' [3017, 3018, 3019, 3020, 3021, 3022, 3023, 3024, 3025, 3026, 3035, 3036, 3037, 3038, 3039, 3041, 3042, 3043, 3044, 3045, 3046, 3049, 3050, 3051, 3052, 3053, 3054, 3057, 3058, 3059, 3060, 3061] ∧ frc c c' [36, 37, 38, 39, 40, 41, 42, 43, 44, 45, 46] ∧ (s' 3050 = 0 → ∃ S2, sec A v (s 3049) S = some S2 ∧ s' 3049 = S2.1 ∧ rrS A (s' 3059) (s' 3061) (s' 3057) (s' 3058) (s' 3060) (c' 45) (c' 46) (c' 44) S2 ∧ mrl S2.2.2.2.2.2.1 (c' 40) (c' 41) (c' 42) (c' 43)) ∧ (s' 3050 ≠ 0 → seN A v (s 3049) S) ∧ (s' 3050 ≠ 0 → c' 40 = c 40 ∧ c' 41 = c 41 ∧ c' 42 = c 42 ∧ c' 43 = c 43) ∧ (s' 3050 = 0 → s 3049 ≤ s' 3049)) := by
  have hA := hp0.1
  have b1 : 0 ≤ (s 3049) ∧ (s 3049) ≤ 32769 := hS 3049
  have b2 : 0 ≤ (s 3014) ∧ (s 3014) ≤ 32768 := hS 3014
  have b3 : 0 ≤ (s 3050) ∧ (s 3050) ≤ 8 := hS 3050
  have b4 : 0 ≤ (s 3059) ∧ (s 3059) ≤ 3 := hS 3059
  have b5 : 0 ≤ (s 3061) ∧ (s 3061) ≤ 3 := hS 3061
  have b6 : 0 ≤ (s 3060) ∧ (s 3060) ≤ 255 := hS 3060
  have b7 : 0 ≤ (s 3057) ∧ (s 3057) ≤ 65535 := hS 3057
  have b8 : 0 ≤ (s 3058) ∧ (s 3058) ≤ 65535 := hS 3058
  have hrd := rrS_d hp2
  refine tt_k 4 (S' := (6, [some (.inr (.inl 30)), some (.inl v), some (.inl (s 3049)), none, none, none, none], [.inr (.inl 30)], n, D, s, p, c)) rfl ?_
  refine tt_cl (by omega) rfl (v_nextTwo (Zi := Zi) (D := D) (s := s) (p := p) (c := c) (by omega) hS hC A hp0) ?_
  rintro _ _ ⟨s9, r10, rfl, rfl, hS9, f11, b12, k13, k14, k15, k16⟩
  show tt Zi d 190 (9, [some (.inr (.inl 30)), some (.inl v), some (.inl (s 3049)), none, none, none, none], [.inl r10], n, D, s9, p, c) _
  replace k13 : (s9 3050) = 0 → ((s 3049) + 1 < A.2 ∧ gT A ((s 3049)) = r10) ∧ (s9 3049) = (s 3049) + 2 ∧ (s9 3049) ≤ (s 3014) := k13
  replace k14 : (s 3050) = 0 → (s9 3050) ≠ 0 → A.2 ≤ (s 3049) + 1 := k14
  replace k15 : (s 3050) ≠ 0 → (s9 3050) ≠ 0 := k15
  replace k16 : (s 3049) ≤ (s9 3049) := k16
  have b17 : 0 ≤ (s9 3050) ∧ (s9 3050) ≤ 8 := hS9 3050
  have b18 : 0 ≤ (s9 3049) ∧ (s9 3049) ≤ 32769 := hS9 3049
  have e19 : s9 3061 = (s 3061) := (f11 3061 (by decide))
  have b20 : 0 ≤ (s9 3061) ∧ (s9 3061) ≤ 3 := hS9 3061
  have e21 : s9 3059 = (s 3059) := (f11 3059 (by decide))
  have b22 : 0 ≤ (s9 3059) ∧ (s9 3059) ≤ 3 := hS9 3059
  have e23 : s9 3060 = (s 3060) := (f11 3060 (by decide))
  have b24 : 0 ≤ (s9 3060) ∧ (s9 3060) ≤ 255 := hS9 3060
  have e25 : s9 3057 = (s 3057) := (f11 3057 (by decide))
  have b26 : 0 ≤ (s9 3057) ∧ (s9 3057) ≤ 65535 := hS9 3057
  have e27 : s9 3058 = (s 3058) := (f11 3058 (by decide))
  have b28 : 0 ≤ (s9 3058) ∧ (s9 3058) ≤ 65535 := hS9 3058
  have e29 : s9 3014 = (s 3014) := (f11 3014 (by decide))
  have b30 : 0 ≤ (s9 3014) ∧ (s9 3014) ≤ 32768 := hS9 3014
  have hx31 : tpl A (s9 3014) (c 34) := by rw [f11 3014 (by decide)]; exact hp0
  by_cases hf1 : s9 3050 = 0
  · skip
    have hb0 := k13 hf1
    refine tt_k 3 (S' := (14, [some (.inr (.inl 30)), some (.inl v), some (.inl (s 3049)), some (.inl r10), none, none, none], [.inl 248, .inl v], n, D, s9, p, c)) rfl ?_
    refine tb_ne (x := v) (y := 248) rfl rfl (by omega) (fun h32 => ?_) (fun h32 => ?_)
    · show tt Zi d 190 (22, [some (.inr (.inl 30)), some (.inl v), some (.inl (s 3049)), some (.inl r10), none, none, none], [], n, D, s9, p, c) _
      refine tt_k 2 (S' := (26, [some (.inr (.inl 30)), some (.inl v), some (.inl (s 3049)), some (.inl r10), none, none, none], [.inl 218, .inl v], n, D, s9, p, c)) rfl ?_
      refine tb_ne (x := v) (y := 218) rfl rfl (by omega) (fun h33 => ?_) (fun h33 => ?_)
      · show tt Zi d 190 (34, [some (.inr (.inl 30)), some (.inl v), some (.inl (s 3049)), some (.inl r10), none, none, none], [], n, D, s9, p, c) _
        refine tt_k 4 (S' := (41, [some (.inr (.inl 30)), some (.inl v), some (.inl (s 3049)), some (.inl r10), some (.inl r10), none, none], [.inl (s9 3050)], n, D, s9, p, c)) rfl ?_
        refine tz_ne (x := (s9 3050)) rfl rfl (by omega) (fun h34 => ?_) (fun h34 => ?_)
        · exfalso; omega
        · show tt Zi d 190 (44, [some (.inr (.inl 30)), some (.inl v), some (.inl (s 3049)), some (.inl r10), some (.inl r10), none, none], [], n, D, s9, p, c) _
          refine tt_k 2 (S' := (46, [some (.inr (.inl 30)), some (.inl v), some (.inl (s 3049)), some (.inl r10), some (.inl r10), none, none], [.inl 2, .inl r10], n, D, s9, p, c)) rfl ?_
          refine tb_lt (x := r10) (y := 2) rfl rfl (by omega) (fun h35 => ?_) (fun h35 => ?_)
          · show tt Zi d 190 (55, [some (.inr (.inl 30)), some (.inl v), some (.inl (s 3049)), some (.inl r10), some (.inl r10), none, none], [], n, D, s9, p, c) _
            refine tt_k 3 (S' := (58, [some (.inr (.inl 30)), some (.inl v), some (.inl (s 3049)), some (.inl r10), some (.inl r10), none, none], [.inl (s 3049), .inl 4, .inr (.inl 30)], n, D, s9, p, c)) rfl ?_
            refine tt_cl (by omega) rfl (k_fail (Zi := Zi) (D := D) (s := s9) (p := p) (c := c) (by omega) hS9 hC 4 (s 3049) (by omega) (by omega)) ?_
            rintro _ _ ⟨s36, rfl, rfl, hS36, f37, k38, k39⟩
            show tt Zi d 190 (61, [some (.inr (.inl 30)), some (.inl v), some (.inl (s 3049)), some (.inl r10), some (.inl r10), none, none], [], n, D, s36, p, c) _
            replace k38 : ((s9 3050) = 0 → (s36 3050) = 4 ∧ (s36 3051) = (s 3049)) := k38
            replace k39 : ((s9 3050) ≠ 0 → (s36 3050) = (s9 3050) ∧ (s36 3051) = (s9 3051)) := k39
            have b40 : 0 ≤ (s36 3050) ∧ (s36 3050) ≤ 8 := hS36 3050
            have b41 : -1 ≤ (s36 3051) ∧ (s36 3051) ≤ 32769 := hS36 3051
            have b42 : -1 ≤ (s9 3051) ∧ (s9 3051) ≤ 32769 := hS9 3051
            have e43 : s36 3049 = (s9 3049) := (f37 3049 (by decide))
            have b44 : 0 ≤ (s36 3049) ∧ (s36 3049) ≤ 32769 := hS36 3049
            have e45 : s36 3061 = (s9 3061) := (f37 3061 (by decide))
            have b46 : 0 ≤ (s36 3061) ∧ (s36 3061) ≤ 3 := hS36 3061
            have e47 : s36 3059 = (s9 3059) := (f37 3059 (by decide))
            have b48 : 0 ≤ (s36 3059) ∧ (s36 3059) ≤ 3 := hS36 3059
            have e49 : s36 3060 = (s9 3060) := (f37 3060 (by decide))
            have b50 : 0 ≤ (s36 3060) ∧ (s36 3060) ≤ 255 := hS36 3060
            have e51 : s36 3057 = (s9 3057) := (f37 3057 (by decide))
            have b52 : 0 ≤ (s36 3057) ∧ (s36 3057) ≤ 65535 := hS36 3057
            have e53 : s36 3058 = (s9 3058) := (f37 3058 (by decide))
            have b54 : 0 ≤ (s36 3058) ∧ (s36 3058) ≤ 65535 := hS36 3058
            have e55 : s36 3014 = (s9 3014) := (f37 3014 (by decide))
            have b56 : 0 ≤ (s36 3014) ∧ (s36 3014) ≤ 32768 := hS36 3014
            have hx57 : tpl A (s36 3014) (c 34) := by rw [f37 3014 (by decide)]; exact hx31
            have hff : s36 3050 ≠ 0 := by have h := k38 (by omega); omega
            have hsn : seN A v (s 3049) S := Or.inl (sec_len (by omega))
            refine tt_k 2 (S' := (65, [some (.inr (.inl 30)), some (.inl v), some (.inl (s 3049)), some (.inl r10), some (.inl r10), none, none], [.inl (s36 3050)], n, D, s36, p, c)) rfl ?_
            refine tz_le (x := (s36 3050)) rfl rfl (by omega) (fun h58 => ?_) (fun h58 => ?_)
            · exfalso; omega
            · show tt Zi d 190 (68, [some (.inr (.inl 30)), some (.inl v), some (.inl (s 3049)), some (.inl r10), some (.inl r10), none, none], [], n, D, s36, p, c) _
              exact tt_rtv rfl rfl ⟨s36, c, rfl, rfl, hS36, hC, (fr_tr (fr_tr fr_rf f11 (by decide)) f37 (by decide)), frc_rf, by show (s36 3050) = 0 → ∃ S2, sec A v (s 3049) S = some S2 ∧ (s36 3049) = S2.1 ∧ rrS A ((s36 3059)) ((s36 3061)) ((s36 3057)) ((s36 3058)) ((s36 3060)) ((c 45)) ((c 46)) ((c 44)) S2 ∧ mrl S2.2.2.2.2.2.1 ((c 40)) ((c 41)) ((c 42)) ((c 43)); intro hf; exact absurd hf (by omega), by show (s36 3050) ≠ 0 → seN A v (s 3049) S; intro _; exact hsn, by show (s36 3050) ≠ 0 → (c 40) = c 40 ∧ (c 41) = c 41 ∧ (c 42) = c 42 ∧ (c 43) = c 43; intro hf; exact ⟨rfl, rfl, rfl, rfl⟩, by show (s36 3050) = 0 → s 3049 ≤ (s36 3049); intro hf; exact absurd hf (by omega)⟩
          · show tt Zi d 190 (49, [some (.inr (.inl 30)), some (.inl v), some (.inl (s 3049)), some (.inl r10), some (.inl r10), none, none], [], n, D, s9, p, c) _
            refine tt_k 2 (S' := (52, [some (.inr (.inl 30)), some (.inl v), some (.inl (s 3049)), some (.inl r10), some (.inl r10), none, none], [.inl r10, .inl r10], n, D, s9, p, c)) rfl ?_
            refine tb_eq (x := r10) (y := r10) rfl rfl (by omega) (fun h59 => ?_) (fun h59 => ?_)
            · show tt Zi d 190 (61, [some (.inr (.inl 30)), some (.inl v), some (.inl (s 3049)), some (.inl r10), some (.inl r10), none, none], [], n, D, s9, p, c) _
              refine tt_k 2 (S' := (65, [some (.inr (.inl 30)), some (.inl v), some (.inl (s 3049)), some (.inl r10), some (.inl r10), none, none], [.inl (s9 3050)], n, D, s9, p, c)) rfl ?_
              refine tz_le (x := (s9 3050)) rfl rfl (by omega) (fun h60 => ?_) (fun h60 => ?_)
              · show tt Zi d 190 (69, [some (.inr (.inl 30)), some (.inl v), some (.inl (s 3049)), some (.inl r10), some (.inl r10), none, none], [], n, D, s9, p, c) _
                refine tt_k 2 (S' := (73, [some (.inr (.inl 30)), some (.inl v), some (.inl (s 3049)), some (.inl r10), some (.inl r10), none, none], [.inl 247, .inl v], n, D, s9, p, c)) rfl ?_
                refine tb_ne (x := v) (y := 247) rfl rfl (by omega) (fun h61 => ?_) (fun h61 => ?_)
                · show tt Zi d 190 (85, [some (.inr (.inl 30)), some (.inl v), some (.inl (s 3049)), some (.inl r10), some (.inl r10), none, none], [], n, D, s9, p, c) _
                  refine tt_k 2 (S' := (89, [some (.inr (.inl 30)), some (.inl v), some (.inl (s 3049)), some (.inl r10), some (.inl r10), none, none], [.inl 248, .inl v], n, D, s9, p, c)) rfl ?_
                  refine tb_ne (x := v) (y := 248) rfl rfl (by omega) (fun h62 => ?_) (fun h62 => ?_)
                  · show tt Zi d 190 (99, [some (.inr (.inl 30)), some (.inl v), some (.inl (s 3049)), some (.inl r10), some (.inl r10), none, none], [], n, D, s9, p, c) _
                    refine tt_k 2 (S' := (103, [some (.inr (.inl 30)), some (.inl v), some (.inl (s 3049)), some (.inl r10), some (.inl r10), none, none], [.inl 218, .inl v], n, D, s9, p, c)) rfl ?_
                    refine tb_ne (x := v) (y := 218) rfl rfl (by omega) (fun h63 => ?_) (fun h63 => ?_)
                    · show tt Zi d 190 (113, [some (.inr (.inl 30)), some (.inl v), some (.inl (s 3049)), some (.inl r10), some (.inl r10), none, none], [], n, D, s9, p, c) _
                      refine tt_k 2 (S' := (116, [some (.inr (.inl 30)), some (.inl v), some (.inl (s 3049)), some (.inl r10), some (.inl r10), some (.inl 2), none], [], n, D, s9, p, c)) rfl ?_
                      refine v_section_L116 (Zi := Zi) (D := D) (s := s9) (p := p) (c := c) hd hS9 hC A (s 3049) r10 (by omega) hx31 (show 2 ≤ r10 by omega) ?_ _ 2 (none) s9 (by omega) hS9 fr_rf (show (s9 3050) = 0 → (s9 3049) = (s 3049) + 2 ∧ (s9 3049) ≤ (s9 3014) by omega) (fun h => absurd h (by omega)) (show 2 ≤ r10 by omega) (show (s 3049) + 2 ≤ (s9 3049) by omega) (Nat.lt_succ_self _)
                      intro x64 x65 s66 b67 hS66 f68 i69 i70 i71 i72 hx73
                      show tt Zi d 190 (141, [some (.inr (.inl 30)), some (.inl v), some (.inl (s 3049)), some (.inl r10), some (.inl r10), some (.inl x64), x65], [], n, D, s66, p, c) _
                      have e74 : s66 3061 = (s9 3061) := (f68 3061 (by decide))
                      have b75 : 0 ≤ (s66 3061) ∧ (s66 3061) ≤ 3 := hS66 3061
                      have e76 : s66 3059 = (s9 3059) := (f68 3059 (by decide))
                      have b77 : 0 ≤ (s66 3059) ∧ (s66 3059) ≤ 3 := hS66 3059
                      have e78 : s66 3060 = (s9 3060) := (f68 3060 (by decide))
                      have b79 : 0 ≤ (s66 3060) ∧ (s66 3060) ≤ 255 := hS66 3060
                      have e80 : s66 3057 = (s9 3057) := (f68 3057 (by decide))
                      have b81 : 0 ≤ (s66 3057) ∧ (s66 3057) ≤ 65535 := hS66 3057
                      have e82 : s66 3058 = (s9 3058) := (f68 3058 (by decide))
                      have b83 : 0 ≤ (s66 3058) ∧ (s66 3058) ≤ 65535 := hS66 3058
                      have e84 : s66 3014 = (s9 3014) := (f68 3014 (by decide))
                      have b85 : 0 ≤ (s66 3014) ∧ (s66 3014) ≤ 32768 := hS66 3014
                      have hx86 : tpl A (s66 3014) (c 34) := by rw [f68 3014 (by decide)]; exact hx31
                      have hi0 := i69
                      have hex := hx73
                      exact tt_rtv rfl rfl ⟨s66, c, rfl, rfl, hS66, hC, (fr_tr (fr_tr fr_rf f11 (by decide)) f68 (by decide)), frc_rf, by show (s66 3050) = 0 → ∃ S2, sec A v (s 3049) S = some S2 ∧ (s66 3049) = S2.1 ∧ rrS A ((s66 3059)) ((s66 3061)) ((s66 3057)) ((s66 3058)) ((s66 3060)) ((c 45)) ((c 46)) ((c 44)) S2 ∧ mrl S2.2.2.2.2.2.1 ((c 40)) ((c 41)) ((c 42)) ((c 43)); intro hf; have h1 := hi0 hf; have h2 := hex hf; exact ⟨_, sec_e (by omega) ⟨by omega, by omega⟩, (by show _ = s 3049 + gT A (s 3049); omega), (by rw [show s66 3059 = s 3059 by omega, show s66 3061 = s 3061 by omega, show s66 3057 = s 3057 by omega, show s66 3058 = s 3058 by omega, show s66 3060 = s 3060 by omega]; exact hp2), hp3⟩, by show (s66 3050) ≠ 0 → seN A v (s 3049) S; intro hf; exact Or.inr ⟨_, sec_e (by omega) ⟨by omega, by omega⟩, (by show A.2 ≤ s 3049 + gT A (s 3049); have h := i70 hf; omega), rfl⟩, by show (s66 3050) ≠ 0 → (c 40) = c 40 ∧ (c 41) = c 41 ∧ (c 42) = c 42 ∧ (c 43) = c 43; intro _; exact ⟨rfl, rfl, rfl, rfl⟩, by show (s66 3050) = 0 → s 3049 ≤ (s66 3049); omega⟩
                    · show tt Zi d 190 (106, [some (.inr (.inl 30)), some (.inl v), some (.inl (s 3049)), some (.inl r10), some (.inl r10), none, none], [], n, D, s9, p, c) _
                      refine tt_k 1 (S' := (107, [some (.inr (.inl 30)), some (.inl v), some (.inl (s 3049)), some (.inl r10), some (.inl r10), none, none], [.inr (.inl 30)], n, D, s9, p, c)) rfl ?_
                      refine tt_cl (by omega) rfl (v_readScan (Zi := Zi) (D := D) (s := s9) (p := p) (c := c) (by omega) hS9 hC A (s 3049) hx31 (show (s9 3050) = 0 by omega) (show (2 ≤ (s9 3060) ∧ (s9 3060) ≤ 16) ∧ (1 ≤ (s9 3057) ∧ (s9 3057) ≤ 64) ∧ (1 ≤ (s9 3058) ∧ (s9 3058) ≤ 64) by omega) (show (s9 3061) < (s9 3059) by omega) (show (s9 3049) = (s 3049) + 2 by omega) (show gT A (s 3049) = 8 by omega) (show 0 ≤ (s 3049) by omega)) ?_
                      rintro _ _ ⟨s87, c88, rfl, rfl, hS87, hC88, f89, g90, k91, k92, k93, k94, k95⟩
                      show tt Zi d 190 (110, [some (.inr (.inl 30)), some (.inl v), some (.inl (s 3049)), some (.inl r10), some (.inl r10), none, none], [], n, D, s87, p, c88) _
                      replace k91 : (s87 3050) = 0 → ∃ X, ((okS A (s 3049) ((c 45) ((s9 3061)).toNat)) ∧ VM ((c 46) 0) ((c 46) 1) ((c 46) 2) ((c 46) 3) ((c 46) 4) ((s9 3060)) (gB A ((s 3049) + 5))) ∧ (plQ A (ZM ((c 46) 0) ((c 46) 1) ((c 46) 2) ((c 46) 3) ((c 46) 4) ((s9 3060)) (gB A ((s 3049) + 5))) ((s9 3057)) ((s9 3058)) 5000 0 0 (((s 3049) + 8, 0, 0), mB ((ZM ((c 46) 0) ((c 46) 1) ((c 46) 2) ((c 46) 3) ((c 46) 4) ((s9 3060)) (gB A ((s 3049) + 5))) 3024), 0, fun _ => 0)) = some X ∧ (s87 3049) = (if X.1.2.1 = 255 then X.1.1 + 1 else X.1.1) ∧ mrl X.2.1 ((c88 40)) ((c88 41)) ((c88 42)) ((c88 43)) ∧ trl X.2.2.2 (4096 * (s9 3061)) ((s9 3057)) 0 ((s9 3058)) ((c88 44)) ∧ ofr (4096 * (s9 3061)) ((c 44)) ((c88 44)) := k91
                      replace k92 : (s87 3050) ≠ 0 → ¬ ((okS A (s 3049) ((c 45) ((s9 3061)).toNat)) ∧ VM ((c 46) 0) ((c 46) 1) ((c 46) 2) ((c 46) 3) ((c 46) 4) ((s9 3060)) (gB A ((s 3049) + 5))) ∨ (plQ A (ZM ((c 46) 0) ((c 46) 1) ((c 46) 2) ((c 46) 3) ((c 46) 4) ((s9 3060)) (gB A ((s 3049) + 5))) ((s9 3057)) ((s9 3058)) 5000 0 0 (((s 3049) + 8, 0, 0), mB ((ZM ((c 46) 0) ((c 46) 1) ((c 46) 2) ((c 46) 3) ((c 46) 4) ((s9 3060)) (gB A ((s 3049) + 5))) 3024), 0, fun _ => 0)) = none := k92
                      replace k93 : (s87 3050) ≠ 0 → (c88 40) = (c 40) ∧ (c88 41) = (c 41) ∧ (c88 42) = (c 42) ∧ (c88 43) = (c 43) := k93
                      replace k94 : (s87 3050) = 0 → (s87 3061) = (s9 3061) + 1 := k94
                      replace k95 : (s87 3050) = 0 → (s9 3049) ≤ (s87 3049) := k95
                      have b96 : 0 ≤ (s87 3050) ∧ (s87 3050) ≤ 8 := hS87 3050
                      have b97 : 0 ≤ (s87 3049) ∧ (s87 3049) ≤ 32769 := hS87 3049
                      have b98 : 0 ≤ (s87 3061) ∧ (s87 3061) ≤ 3 := hS87 3061
                      have e99 : s87 3059 = (s9 3059) := (f89 3059 (by decide))
                      have b100 : 0 ≤ (s87 3059) ∧ (s87 3059) ≤ 3 := hS87 3059
                      have e101 : s87 3060 = (s9 3060) := (f89 3060 (by decide))
                      have b102 : 0 ≤ (s87 3060) ∧ (s87 3060) ≤ 255 := hS87 3060
                      have e103 : s87 3057 = (s9 3057) := (f89 3057 (by decide))
                      have b104 : 0 ≤ (s87 3057) ∧ (s87 3057) ≤ 65535 := hS87 3057
                      have e105 : s87 3058 = (s9 3058) := (f89 3058 (by decide))
                      have b106 : 0 ≤ (s87 3058) ∧ (s87 3058) ≤ 65535 := hS87 3058
                      have e107 : s87 3014 = (s9 3014) := (f89 3014 (by decide))
                      have b108 : 0 ≤ (s87 3014) ∧ (s87 3014) ≤ 32768 := hS87 3014
                      have hx109 : tpl A (s87 3014) (c88 34) := by rw [f89 3014 (by decide), g90 34 (by decide)]; exact hx31
                      by_cases hf2 : s87 3050 = 0
                      · skip
                        obtain ⟨X, x0, x1, x2, x3, x4, x5⟩ := k91 hf2
                        clear k91 k92
                        simp only [show s9 3061 = s 3061 by omega, show s9 3060 = s 3060 by omega, show s9 3057 = s 3057 by omega, show s9 3058 = s 3058 by omega] at x0
                        simp only [show s9 3061 = s 3061 by omega, show s9 3060 = s 3060 by omega, show s9 3057 = s 3057 by omega, show s9 3058 = s 3058 by omega] at x1
                        simp only [show s9 3061 = s 3061 by omega, show s9 3060 = s 3060 by omega, show s9 3057 = s 3057 by omega, show s9 3058 = s 3058 by omega] at x4
                        simp only [show s9 3061 = s 3061 by omega, show s9 3060 = s 3060 by omega, show s9 3057 = s 3057 by omega, show s9 3058 = s 3058 by omega] at x5
                        obtain ⟨h1, h2⟩ := rrS_s hp2 (by omega) x0 x1 x4 x5
                        have hsc := k94 hf2
                        refine tt_k 1 (S' := (141, [some (.inr (.inl 30)), some (.inl v), some (.inl (s 3049)), some (.inl r10), some (.inl r10), none, none], [], n, D, s87, p, c88)) rfl ?_
                        exact tt_rtv rfl rfl ⟨s87, c88, rfl, rfl, hS87, hC88, (fr_tr (fr_tr fr_rf f11 (by decide)) f89 (by decide)), (frc_tr frc_rf g90 (by decide)), by show (s87 3050) = 0 → ∃ S2, sec A v (s 3049) S = some S2 ∧ (s87 3049) = S2.1 ∧ rrS A ((s87 3059)) ((s87 3061)) ((s87 3057)) ((s87 3058)) ((s87 3060)) ((c88 45)) ((c88 46)) ((c88 44)) S2 ∧ mrl S2.2.2.2.2.2.1 ((c88 40)) ((c88 41)) ((c88 42)) ((c88 43)); intro hf; exact ⟨scN S X, by rw [show v = 218 by omega]; exact h1, x2, (by rw [show s87 3059 = s 3059 by omega, show s87 3057 = s 3057 by omega, show s87 3058 = s 3058 by omega, show s87 3060 = s 3060 by omega, show s87 3061 = s 3061 + 1 by omega, show c88 45 = c 45 from (g90 45 (by decide)), show c88 46 = c 46 from (g90 46 (by decide))]; exact h2), x3⟩, by show (s87 3050) ≠ 0 → seN A v (s 3049) S; intro hf; exact absurd hf (by omega), by show (s87 3050) ≠ 0 → (c88 40) = c 40 ∧ (c88 41) = c 41 ∧ (c88 42) = c 42 ∧ (c88 43) = c 43; intro hf; exact absurd hf (by omega), by show (s87 3050) = 0 → s 3049 ≤ (s87 3049); omega⟩
                      · skip
                        have hx := k92 hf2
                        clear k91 k92
                        simp only [show s9 3061 = s 3061 by omega, show s9 3060 = s 3060 by omega, show s9 3057 = s 3057 by omega, show s9 3058 = s 3058 by omega] at hx
                        have hsn : seN A v (s 3049) S := Or.inl (by rw [show v = 218 by omega]; exact rrS_sx hp2 (by omega) hx)
                        refine tt_k 1 (S' := (141, [some (.inr (.inl 30)), some (.inl v), some (.inl (s 3049)), some (.inl r10), some (.inl r10), none, none], [], n, D, s87, p, c88)) rfl ?_
                        exact tt_rtv rfl rfl ⟨s87, c88, rfl, rfl, hS87, hC88, (fr_tr (fr_tr fr_rf f11 (by decide)) f89 (by decide)), (frc_tr frc_rf g90 (by decide)), by show (s87 3050) = 0 → ∃ S2, sec A v (s 3049) S = some S2 ∧ (s87 3049) = S2.1 ∧ rrS A ((s87 3059)) ((s87 3061)) ((s87 3057)) ((s87 3058)) ((s87 3060)) ((c88 45)) ((c88 46)) ((c88 44)) S2 ∧ mrl S2.2.2.2.2.2.1 ((c88 40)) ((c88 41)) ((c88 42)) ((c88 43)); intro hf; exact absurd hf (by omega), by show (s87 3050) ≠ 0 → seN A v (s 3049) S; intro _; exact hsn, by show (s87 3050) ≠ 0 → (c88 40) = c 40 ∧ (c88 41) = c 41 ∧ (c88 42) = c 42 ∧ (c88 43) = c 43; intro hf; exact k93 hf, by show (s87 3050) = 0 → s 3049 ≤ (s87 3049); intro hf; exact absurd hf (by omega)⟩
                  · show tt Zi d 190 (92, [some (.inr (.inl 30)), some (.inl v), some (.inl (s 3049)), some (.inl r10), some (.inl r10), none, none], [], n, D, s9, p, c) _
                    refine tt_k 1 (S' := (93, [some (.inr (.inl 30)), some (.inl v), some (.inl (s 3049)), some (.inl r10), some (.inl r10), none, none], [.inr (.inl 30)], n, D, s9, p, c)) rfl ?_
                    refine tt_cl (by omega) rfl (v_readMeasures (Zi := Zi) (D := D) (s := s9) (p := p) (c := c) (by omega) hS9 hC A (s 3049) hx31 (show (s9 3050) = 0 by omega) (show (s9 3049) = (s 3049) + 2 by omega) (show gT A (s 3049) = 13 by omega) (show 0 ≤ (s 3049) by omega)) ?_
                    rintro _ _ ⟨s110, c111, rfl, rfl, hS110, hC111, f112, g113, k114, k115, k116, k117, k118⟩
                    show tt Zi d 190 (96, [some (.inr (.inl 30)), some (.inl v), some (.inl (s 3049)), some (.inl r10), some (.inl r10), none, none], [], n, D, s110, p, c111) _
                    replace k114 : (s110 3050) = 0 → okM A (s 3049) := k114
                    replace k115 : (s110 3050) ≠ 0 → ¬ okM A (s 3049) := k115
                    replace k116 : (s110 3050) = 0 → (s110 3049) = (s 3049) + 13 ∧ (s110 3049) ≤ (s9 3014) := k116
                    replace k117 : (s110 3050) = 0 → ∀ i : Nat, i < 5 → (c111 46) i = qM A (s 3049) i := k117
                    replace k118 : (s9 3049) ≤ (s110 3049) := k118
                    have b119 : 0 ≤ (s110 3050) ∧ (s110 3050) ≤ 8 := hS110 3050
                    have b120 : 0 ≤ (s110 3049) ∧ (s110 3049) ≤ 32769 := hS110 3049
                    have e121 : s110 3061 = (s9 3061) := (f112 3061 (by decide))
                    have b122 : 0 ≤ (s110 3061) ∧ (s110 3061) ≤ 3 := hS110 3061
                    have e123 : s110 3059 = (s9 3059) := (f112 3059 (by decide))
                    have b124 : 0 ≤ (s110 3059) ∧ (s110 3059) ≤ 3 := hS110 3059
                    have e125 : s110 3060 = (s9 3060) := (f112 3060 (by decide))
                    have b126 : 0 ≤ (s110 3060) ∧ (s110 3060) ≤ 255 := hS110 3060
                    have e127 : s110 3057 = (s9 3057) := (f112 3057 (by decide))
                    have b128 : 0 ≤ (s110 3057) ∧ (s110 3057) ≤ 65535 := hS110 3057
                    have e129 : s110 3058 = (s9 3058) := (f112 3058 (by decide))
                    have b130 : 0 ≤ (s110 3058) ∧ (s110 3058) ≤ 65535 := hS110 3058
                    have e131 : s110 3014 = (s9 3014) := (f112 3014 (by decide))
                    have b132 : 0 ≤ (s110 3014) ∧ (s110 3014) ≤ 32768 := hS110 3014
                    have hx133 : tpl A (s110 3014) (c111 34) := by rw [f112 3014 (by decide), g113 34 (by decide)]; exact hx31
                    by_cases hf2 : s110 3050 = 0
                    · skip
                      obtain ⟨h1, h2⟩ := rrS_m hp2 (k114 hf2) (k117 hf2)
                      have ha := k116 hf2
                      refine tt_k 1 (S' := (141, [some (.inr (.inl 30)), some (.inl v), some (.inl (s 3049)), some (.inl r10), some (.inl r10), none, none], [], n, D, s110, p, c111)) rfl ?_
                      have hk4 : mrl S.2.2.2.2.2.1 (c111 40) (c111 41) (c111 42) (c111 43) := by rw [show c111 40 = c 40 from (g113 40 (by decide)), show c111 41 = c 41 from (g113 41 (by decide)), show c111 42 = c 42 from (g113 42 (by decide)), show c111 43 = c 43 from (g113 43 (by decide))]; exact hp3
                      exact tt_rtv rfl rfl ⟨s110, c111, rfl, rfl, hS110, hC111, (fr_tr (fr_tr fr_rf f11 (by decide)) f112 (by decide)), (frc_tr frc_rf g113 (by decide)), by show (s110 3050) = 0 → ∃ S2, sec A v (s 3049) S = some S2 ∧ (s110 3049) = S2.1 ∧ rrS A ((s110 3059)) ((s110 3061)) ((s110 3057)) ((s110 3058)) ((s110 3060)) ((c111 45)) ((c111 46)) ((c111 44)) S2 ∧ mrl S2.2.2.2.2.2.1 ((c111 40)) ((c111 41)) ((c111 42)) ((c111 43)); intro hf; exact ⟨(s 3049 + 13, S.2.1, S.2.2.1, S.2.2.2.1, qM A (s 3049), S.2.2.2.2.2), by rw [show v = 248 by omega]; exact h1, by omega, (by rw [show s110 3059 = s 3059 by omega, show s110 3061 = s 3061 by omega, show s110 3057 = s 3057 by omega, show s110 3058 = s 3058 by omega, show s110 3060 = s 3060 by omega, show c111 45 = c 45 from (g113 45 (by decide)), show c111 44 = c 44 from (g113 44 (by decide))]; exact h2), hk4⟩, by show (s110 3050) ≠ 0 → seN A v (s 3049) S; intro hf; exact absurd hf (by omega), by show (s110 3050) ≠ 0 → (c111 40) = c 40 ∧ (c111 41) = c 41 ∧ (c111 42) = c 42 ∧ (c111 43) = c 43; intro hf; exact absurd hf (by omega), by show (s110 3050) = 0 → s 3049 ≤ (s110 3049); omega⟩
                    · skip
                      have hsn : seN A v (s 3049) S := Or.inl (by rw [show v = 248 by omega]; exact sec_mn (k115 hf2))
                      refine tt_k 1 (S' := (141, [some (.inr (.inl 30)), some (.inl v), some (.inl (s 3049)), some (.inl r10), some (.inl r10), none, none], [], n, D, s110, p, c111)) rfl ?_
                      exact tt_rtv rfl rfl ⟨s110, c111, rfl, rfl, hS110, hC111, (fr_tr (fr_tr fr_rf f11 (by decide)) f112 (by decide)), (frc_tr frc_rf g113 (by decide)), by show (s110 3050) = 0 → ∃ S2, sec A v (s 3049) S = some S2 ∧ (s110 3049) = S2.1 ∧ rrS A ((s110 3059)) ((s110 3061)) ((s110 3057)) ((s110 3058)) ((s110 3060)) ((c111 45)) ((c111 46)) ((c111 44)) S2 ∧ mrl S2.2.2.2.2.2.1 ((c111 40)) ((c111 41)) ((c111 42)) ((c111 43)); intro hf; exact absurd hf (by omega), by show (s110 3050) ≠ 0 → seN A v (s 3049) S; intro _; exact hsn, by show (s110 3050) ≠ 0 → (c111 40) = c 40 ∧ (c111 41) = c 41 ∧ (c111 42) = c 42 ∧ (c111 43) = c 43; intro hf; exact ⟨(g113 40 (by decide)), (g113 41 (by decide)), (g113 42 (by decide)), (g113 43 (by decide))⟩, by show (s110 3050) = 0 → s 3049 ≤ (s110 3049); intro hf; exact absurd hf (by omega)⟩
                · show tt Zi d 190 (76, [some (.inr (.inl 30)), some (.inl v), some (.inl (s 3049)), some (.inl r10), some (.inl r10), none, none], [], n, D, s9, p, c) _
                  refine tt_k 3 (S' := (79, [some (.inr (.inl 30)), some (.inl v), some (.inl (s 3049)), some (.inl r10), some (.inl r10), none, none], [.inl r10, .inl (s 3049), .inr (.inl 30)], n, D, s9, p, c)) rfl ?_
                  refine tt_cl (by omega) rfl (v_readFrame (Zi := Zi) (D := D) (s := s9) (p := p) (c := c) (by omega) hS9 hC A (s 3049) r10 (by omega) (by omega) hx31 (show (s9 3050) = 0 by omega) (show (s9 3049) = (s 3049) + 2 by omega) (show gT A (s 3049) = r10 by omega)) ?_
                  rintro _ _ ⟨s134, c135, rfl, rfl, hS134, hC135, f136, g137, k138, k139, k140, k141, k142, k143⟩
                  show tt Zi d 190 (82, [some (.inr (.inl 30)), some (.inl v), some (.inl (s 3049)), some (.inl r10), some (.inl r10), none, none], [], n, D, s134, p, c135) _
                  replace k138 : (s134 3050) = 0 → okF A (s 3049) := k138
                  replace k139 : (s134 3050) ≠ 0 → ¬ okF A (s 3049) := k139
                  replace k140 : (s134 3050) = 0 → (s134 3049) = (s 3049) + 8 + 3 * qP A (s 3049) ∧ (s134 3049) ≤ (s9 3014) := k140
                  replace k141 : (s134 3050) = 0 → ((s134 3057) = qW A (s 3049) ∧ (s134 3058) = qH A (s 3049)) ∧ ((s134 3059) = qP A (s 3049) ∧ (s134 3060) = qD A (s 3049)) := k141
                  replace k142 : (s134 3050) = 0 → ∀ j : Int, 0 ≤ j → j < qP A (s 3049) → (c135 45) j.toNat = qN A (s 3049) j := k142
                  replace k143 : (s9 3049) ≤ (s134 3049) := k143
                  have b144 : 0 ≤ (s134 3050) ∧ (s134 3050) ≤ 8 := hS134 3050
                  have b145 : 0 ≤ (s134 3049) ∧ (s134 3049) ≤ 32769 := hS134 3049
                  have b146 : 0 ≤ (s134 3057) ∧ (s134 3057) ≤ 65535 := hS134 3057
                  have b147 : 0 ≤ (s134 3058) ∧ (s134 3058) ≤ 65535 := hS134 3058
                  have b148 : 0 ≤ (s134 3059) ∧ (s134 3059) ≤ 3 := hS134 3059
                  have b149 : 0 ≤ (s134 3060) ∧ (s134 3060) ≤ 255 := hS134 3060
                  have e150 : s134 3061 = (s9 3061) := (f136 3061 (by decide))
                  have b151 : 0 ≤ (s134 3061) ∧ (s134 3061) ≤ 3 := hS134 3061
                  have e152 : s134 3014 = (s9 3014) := (f136 3014 (by decide))
                  have b153 : 0 ≤ (s134 3014) ∧ (s134 3014) ≤ 32768 := hS134 3014
                  have hx154 : tpl A (s134 3014) (c135 34) := by rw [f136 3014 (by decide), g137 34 (by decide)]; exact hx31
                  by_cases hf2 : s134 3050 = 0
                  · skip
                    obtain ⟨h1, h2⟩ := rrS_f (f4 := c 44) hp2 (by omega) (k138 hf2) (k141 hf2) (k142 hf2) (g137 46 (by decide))
                    have ha := k140 hf2
                    refine tt_k 1 (S' := (141, [some (.inr (.inl 30)), some (.inl v), some (.inl (s 3049)), some (.inl r10), some (.inl r10), none, none], [], n, D, s134, p, c135)) rfl ?_
                    have hk4 : mrl S.2.2.2.2.2.1 (c135 40) (c135 41) (c135 42) (c135 43) := by rw [show c135 40 = c 40 from (g137 40 (by decide)), show c135 41 = c 41 from (g137 41 (by decide)), show c135 42 = c 42 from (g137 42 (by decide)), show c135 43 = c 43 from (g137 43 (by decide))]; exact hp3
                    exact tt_rtv rfl rfl ⟨s134, c135, rfl, rfl, hS134, hC135, (fr_tr (fr_tr fr_rf f11 (by decide)) f136 (by decide)), (frc_tr frc_rf g137 (by decide)), by show (s134 3050) = 0 → ∃ S2, sec A v (s 3049) S = some S2 ∧ (s134 3049) = S2.1 ∧ rrS A ((s134 3059)) ((s134 3061)) ((s134 3057)) ((s134 3058)) ((s134 3060)) ((c135 45)) ((c135 46)) ((c135 44)) S2 ∧ mrl S2.2.2.2.2.2.1 ((c135 40)) ((c135 41)) ((c135 42)) ((c135 43)); intro hf; exact ⟨(s 3049 + 8 + 3 * qP A (s 3049), (qW A (s 3049), qH A (s 3049), qP A (s 3049), qD A (s 3049)), S.2.2.1, s 3049, S.2.2.2.2), by rw [show v = 247 by omega]; exact h1, by omega, (by rw [show s134 3061 = s 3061 by omega, show c135 44 = c 44 from (g137 44 (by decide))]; exact h2), hk4⟩, by show (s134 3050) ≠ 0 → seN A v (s 3049) S; intro hf; exact absurd hf (by omega), by show (s134 3050) ≠ 0 → (c135 40) = c 40 ∧ (c135 41) = c 41 ∧ (c135 42) = c 42 ∧ (c135 43) = c 43; intro hf; exact absurd hf (by omega), by show (s134 3050) = 0 → s 3049 ≤ (s134 3049); omega⟩
                  · skip
                    have hsn : seN A v (s 3049) S := Or.inl (by rw [show v = 247 by omega]; exact sec_fn (fun q => k139 hf2 q.2))
                    refine tt_k 1 (S' := (141, [some (.inr (.inl 30)), some (.inl v), some (.inl (s 3049)), some (.inl r10), some (.inl r10), none, none], [], n, D, s134, p, c135)) rfl ?_
                    exact tt_rtv rfl rfl ⟨s134, c135, rfl, rfl, hS134, hC135, (fr_tr (fr_tr fr_rf f11 (by decide)) f136 (by decide)), (frc_tr frc_rf g137 (by decide)), by show (s134 3050) = 0 → ∃ S2, sec A v (s 3049) S = some S2 ∧ (s134 3049) = S2.1 ∧ rrS A ((s134 3059)) ((s134 3061)) ((s134 3057)) ((s134 3058)) ((s134 3060)) ((c135 45)) ((c135 46)) ((c135 44)) S2 ∧ mrl S2.2.2.2.2.2.1 ((c135 40)) ((c135 41)) ((c135 42)) ((c135 43)); intro hf; exact absurd hf (by omega), by show (s134 3050) ≠ 0 → seN A v (s 3049) S; intro _; exact hsn, by show (s134 3050) ≠ 0 → (c135 40) = c 40 ∧ (c135 41) = c 41 ∧ (c135 42) = c 42 ∧ (c135 43) = c 43; intro hf; exact ⟨(g137 40 (by decide)), (g137 41 (by decide)), (g137 42 (by decide)), (g137 43 (by decide))⟩, by show (s134 3050) = 0 → s 3049 ≤ (s134 3049); intro hf; exact absurd hf (by omega)⟩
              · exfalso; omega
            · show tt Zi d 190 (55, [some (.inr (.inl 30)), some (.inl v), some (.inl (s 3049)), some (.inl r10), some (.inl r10), none, none], [], n, D, s9, p, c) _
              refine tt_k 3 (S' := (58, [some (.inr (.inl 30)), some (.inl v), some (.inl (s 3049)), some (.inl r10), some (.inl r10), none, none], [.inl (s 3049), .inl 4, .inr (.inl 30)], n, D, s9, p, c)) rfl ?_
              refine tt_cl (by omega) rfl (k_fail (Zi := Zi) (D := D) (s := s9) (p := p) (c := c) (by omega) hS9 hC 4 (s 3049) (by omega) (by omega)) ?_
              rintro _ _ ⟨s155, rfl, rfl, hS155, f156, k157, k158⟩
              show tt Zi d 190 (61, [some (.inr (.inl 30)), some (.inl v), some (.inl (s 3049)), some (.inl r10), some (.inl r10), none, none], [], n, D, s155, p, c) _
              replace k157 : ((s9 3050) = 0 → (s155 3050) = 4 ∧ (s155 3051) = (s 3049)) := k157
              replace k158 : ((s9 3050) ≠ 0 → (s155 3050) = (s9 3050) ∧ (s155 3051) = (s9 3051)) := k158
              have b159 : 0 ≤ (s155 3050) ∧ (s155 3050) ≤ 8 := hS155 3050
              have b160 : -1 ≤ (s155 3051) ∧ (s155 3051) ≤ 32769 := hS155 3051
              have b161 : -1 ≤ (s9 3051) ∧ (s9 3051) ≤ 32769 := hS9 3051
              have e162 : s155 3049 = (s9 3049) := (f156 3049 (by decide))
              have b163 : 0 ≤ (s155 3049) ∧ (s155 3049) ≤ 32769 := hS155 3049
              have e164 : s155 3061 = (s9 3061) := (f156 3061 (by decide))
              have b165 : 0 ≤ (s155 3061) ∧ (s155 3061) ≤ 3 := hS155 3061
              have e166 : s155 3059 = (s9 3059) := (f156 3059 (by decide))
              have b167 : 0 ≤ (s155 3059) ∧ (s155 3059) ≤ 3 := hS155 3059
              have e168 : s155 3060 = (s9 3060) := (f156 3060 (by decide))
              have b169 : 0 ≤ (s155 3060) ∧ (s155 3060) ≤ 255 := hS155 3060
              have e170 : s155 3057 = (s9 3057) := (f156 3057 (by decide))
              have b171 : 0 ≤ (s155 3057) ∧ (s155 3057) ≤ 65535 := hS155 3057
              have e172 : s155 3058 = (s9 3058) := (f156 3058 (by decide))
              have b173 : 0 ≤ (s155 3058) ∧ (s155 3058) ≤ 65535 := hS155 3058
              have e174 : s155 3014 = (s9 3014) := (f156 3014 (by decide))
              have b175 : 0 ≤ (s155 3014) ∧ (s155 3014) ≤ 32768 := hS155 3014
              have hx176 : tpl A (s155 3014) (c 34) := by rw [f156 3014 (by decide)]; exact hx31
              have hff : s155 3050 ≠ 0 := by have h := k157 (by omega); omega
              have hsn : seN A v (s 3049) S := Or.inl (sec_len (by omega))
              refine tt_k 2 (S' := (65, [some (.inr (.inl 30)), some (.inl v), some (.inl (s 3049)), some (.inl r10), some (.inl r10), none, none], [.inl (s155 3050)], n, D, s155, p, c)) rfl ?_
              refine tz_le (x := (s155 3050)) rfl rfl (by omega) (fun h177 => ?_) (fun h177 => ?_)
              · exfalso; omega
              · show tt Zi d 190 (68, [some (.inr (.inl 30)), some (.inl v), some (.inl (s 3049)), some (.inl r10), some (.inl r10), none, none], [], n, D, s155, p, c) _
                exact tt_rtv rfl rfl ⟨s155, c, rfl, rfl, hS155, hC, (fr_tr (fr_tr fr_rf f11 (by decide)) f156 (by decide)), frc_rf, by show (s155 3050) = 0 → ∃ S2, sec A v (s 3049) S = some S2 ∧ (s155 3049) = S2.1 ∧ rrS A ((s155 3059)) ((s155 3061)) ((s155 3057)) ((s155 3058)) ((s155 3060)) ((c 45)) ((c 46)) ((c 44)) S2 ∧ mrl S2.2.2.2.2.2.1 ((c 40)) ((c 41)) ((c 42)) ((c 43)); intro hf; exact absurd hf (by omega), by show (s155 3050) ≠ 0 → seN A v (s 3049) S; intro _; exact hsn, by show (s155 3050) ≠ 0 → (c 40) = c 40 ∧ (c 41) = c 41 ∧ (c 42) = c 42 ∧ (c 43) = c 43; intro hf; exact ⟨rfl, rfl, rfl, rfl⟩, by show (s155 3050) = 0 → s 3049 ≤ (s155 3049); intro hf; exact absurd hf (by omega)⟩
      · show tt Zi d 190 (29, [some (.inr (.inl 30)), some (.inl v), some (.inl (s 3049)), some (.inl r10), none, none, none], [], n, D, s9, p, c) _
        refine tt_k 5 (S' := (41, [some (.inr (.inl 30)), some (.inl v), some (.inl (s 3049)), some (.inl r10), some (.inl 8), none, none], [.inl (s9 3050)], n, D, s9, p, c)) rfl ?_
        refine tz_ne (x := (s9 3050)) rfl rfl (by omega) (fun h178 => ?_) (fun h178 => ?_)
        · exfalso; omega
        · show tt Zi d 190 (44, [some (.inr (.inl 30)), some (.inl v), some (.inl (s 3049)), some (.inl r10), some (.inl 8), none, none], [], n, D, s9, p, c) _
          refine tt_k 2 (S' := (46, [some (.inr (.inl 30)), some (.inl v), some (.inl (s 3049)), some (.inl r10), some (.inl 8), none, none], [.inl 2, .inl r10], n, D, s9, p, c)) rfl ?_
          refine tb_lt (x := r10) (y := 2) rfl rfl (by omega) (fun h179 => ?_) (fun h179 => ?_)
          · show tt Zi d 190 (55, [some (.inr (.inl 30)), some (.inl v), some (.inl (s 3049)), some (.inl r10), some (.inl 8), none, none], [], n, D, s9, p, c) _
            refine tt_k 3 (S' := (58, [some (.inr (.inl 30)), some (.inl v), some (.inl (s 3049)), some (.inl r10), some (.inl 8), none, none], [.inl (s 3049), .inl 4, .inr (.inl 30)], n, D, s9, p, c)) rfl ?_
            refine tt_cl (by omega) rfl (k_fail (Zi := Zi) (D := D) (s := s9) (p := p) (c := c) (by omega) hS9 hC 4 (s 3049) (by omega) (by omega)) ?_
            rintro _ _ ⟨s180, rfl, rfl, hS180, f181, k182, k183⟩
            show tt Zi d 190 (61, [some (.inr (.inl 30)), some (.inl v), some (.inl (s 3049)), some (.inl r10), some (.inl 8), none, none], [], n, D, s180, p, c) _
            replace k182 : ((s9 3050) = 0 → (s180 3050) = 4 ∧ (s180 3051) = (s 3049)) := k182
            replace k183 : ((s9 3050) ≠ 0 → (s180 3050) = (s9 3050) ∧ (s180 3051) = (s9 3051)) := k183
            have b184 : 0 ≤ (s180 3050) ∧ (s180 3050) ≤ 8 := hS180 3050
            have b185 : -1 ≤ (s180 3051) ∧ (s180 3051) ≤ 32769 := hS180 3051
            have b186 : -1 ≤ (s9 3051) ∧ (s9 3051) ≤ 32769 := hS9 3051
            have e187 : s180 3049 = (s9 3049) := (f181 3049 (by decide))
            have b188 : 0 ≤ (s180 3049) ∧ (s180 3049) ≤ 32769 := hS180 3049
            have e189 : s180 3061 = (s9 3061) := (f181 3061 (by decide))
            have b190 : 0 ≤ (s180 3061) ∧ (s180 3061) ≤ 3 := hS180 3061
            have e191 : s180 3059 = (s9 3059) := (f181 3059 (by decide))
            have b192 : 0 ≤ (s180 3059) ∧ (s180 3059) ≤ 3 := hS180 3059
            have e193 : s180 3060 = (s9 3060) := (f181 3060 (by decide))
            have b194 : 0 ≤ (s180 3060) ∧ (s180 3060) ≤ 255 := hS180 3060
            have e195 : s180 3057 = (s9 3057) := (f181 3057 (by decide))
            have b196 : 0 ≤ (s180 3057) ∧ (s180 3057) ≤ 65535 := hS180 3057
            have e197 : s180 3058 = (s9 3058) := (f181 3058 (by decide))
            have b198 : 0 ≤ (s180 3058) ∧ (s180 3058) ≤ 65535 := hS180 3058
            have e199 : s180 3014 = (s9 3014) := (f181 3014 (by decide))
            have b200 : 0 ≤ (s180 3014) ∧ (s180 3014) ≤ 32768 := hS180 3014
            have hx201 : tpl A (s180 3014) (c 34) := by rw [f181 3014 (by decide)]; exact hx31
            have hff : s180 3050 ≠ 0 := by have h := k182 (by omega); omega
            have hsn : seN A v (s 3049) S := Or.inl (sec_len (by omega))
            refine tt_k 2 (S' := (65, [some (.inr (.inl 30)), some (.inl v), some (.inl (s 3049)), some (.inl r10), some (.inl 8), none, none], [.inl (s180 3050)], n, D, s180, p, c)) rfl ?_
            refine tz_le (x := (s180 3050)) rfl rfl (by omega) (fun h202 => ?_) (fun h202 => ?_)
            · exfalso; omega
            · show tt Zi d 190 (68, [some (.inr (.inl 30)), some (.inl v), some (.inl (s 3049)), some (.inl r10), some (.inl 8), none, none], [], n, D, s180, p, c) _
              exact tt_rtv rfl rfl ⟨s180, c, rfl, rfl, hS180, hC, (fr_tr (fr_tr fr_rf f11 (by decide)) f181 (by decide)), frc_rf, by show (s180 3050) = 0 → ∃ S2, sec A v (s 3049) S = some S2 ∧ (s180 3049) = S2.1 ∧ rrS A ((s180 3059)) ((s180 3061)) ((s180 3057)) ((s180 3058)) ((s180 3060)) ((c 45)) ((c 46)) ((c 44)) S2 ∧ mrl S2.2.2.2.2.2.1 ((c 40)) ((c 41)) ((c 42)) ((c 43)); intro hf; exact absurd hf (by omega), by show (s180 3050) ≠ 0 → seN A v (s 3049) S; intro _; exact hsn, by show (s180 3050) ≠ 0 → (c 40) = c 40 ∧ (c 41) = c 41 ∧ (c 42) = c 42 ∧ (c 43) = c 43; intro hf; exact ⟨rfl, rfl, rfl, rfl⟩, by show (s180 3050) = 0 → s 3049 ≤ (s180 3049); intro hf; exact absurd hf (by omega)⟩
          · show tt Zi d 190 (49, [some (.inr (.inl 30)), some (.inl v), some (.inl (s 3049)), some (.inl r10), some (.inl 8), none, none], [], n, D, s9, p, c) _
            refine tt_k 2 (S' := (52, [some (.inr (.inl 30)), some (.inl v), some (.inl (s 3049)), some (.inl r10), some (.inl 8), none, none], [.inl 8, .inl r10], n, D, s9, p, c)) rfl ?_
            refine tb_eq (x := r10) (y := 8) rfl rfl (by omega) (fun h203 => ?_) (fun h203 => ?_)
            · show tt Zi d 190 (61, [some (.inr (.inl 30)), some (.inl v), some (.inl (s 3049)), some (.inl r10), some (.inl 8), none, none], [], n, D, s9, p, c) _
              refine tt_k 2 (S' := (65, [some (.inr (.inl 30)), some (.inl v), some (.inl (s 3049)), some (.inl r10), some (.inl 8), none, none], [.inl (s9 3050)], n, D, s9, p, c)) rfl ?_
              refine tz_le (x := (s9 3050)) rfl rfl (by omega) (fun h204 => ?_) (fun h204 => ?_)
              · show tt Zi d 190 (69, [some (.inr (.inl 30)), some (.inl v), some (.inl (s 3049)), some (.inl r10), some (.inl 8), none, none], [], n, D, s9, p, c) _
                refine tt_k 2 (S' := (73, [some (.inr (.inl 30)), some (.inl v), some (.inl (s 3049)), some (.inl r10), some (.inl 8), none, none], [.inl 247, .inl v], n, D, s9, p, c)) rfl ?_
                refine tb_ne (x := v) (y := 247) rfl rfl (by omega) (fun h205 => ?_) (fun h205 => ?_)
                · show tt Zi d 190 (85, [some (.inr (.inl 30)), some (.inl v), some (.inl (s 3049)), some (.inl r10), some (.inl 8), none, none], [], n, D, s9, p, c) _
                  refine tt_k 2 (S' := (89, [some (.inr (.inl 30)), some (.inl v), some (.inl (s 3049)), some (.inl r10), some (.inl 8), none, none], [.inl 248, .inl v], n, D, s9, p, c)) rfl ?_
                  refine tb_ne (x := v) (y := 248) rfl rfl (by omega) (fun h206 => ?_) (fun h206 => ?_)
                  · show tt Zi d 190 (99, [some (.inr (.inl 30)), some (.inl v), some (.inl (s 3049)), some (.inl r10), some (.inl 8), none, none], [], n, D, s9, p, c) _
                    refine tt_k 2 (S' := (103, [some (.inr (.inl 30)), some (.inl v), some (.inl (s 3049)), some (.inl r10), some (.inl 8), none, none], [.inl 218, .inl v], n, D, s9, p, c)) rfl ?_
                    refine tb_ne (x := v) (y := 218) rfl rfl (by omega) (fun h207 => ?_) (fun h207 => ?_)
                    · exfalso; omega
                    · show tt Zi d 190 (106, [some (.inr (.inl 30)), some (.inl v), some (.inl (s 3049)), some (.inl r10), some (.inl 8), none, none], [], n, D, s9, p, c) _
                      refine tt_k 1 (S' := (107, [some (.inr (.inl 30)), some (.inl v), some (.inl (s 3049)), some (.inl r10), some (.inl 8), none, none], [.inr (.inl 30)], n, D, s9, p, c)) rfl ?_
                      refine tt_cl (by omega) rfl (v_readScan (Zi := Zi) (D := D) (s := s9) (p := p) (c := c) (by omega) hS9 hC A (s 3049) hx31 (show (s9 3050) = 0 by omega) (show (2 ≤ (s9 3060) ∧ (s9 3060) ≤ 16) ∧ (1 ≤ (s9 3057) ∧ (s9 3057) ≤ 64) ∧ (1 ≤ (s9 3058) ∧ (s9 3058) ≤ 64) by omega) (show (s9 3061) < (s9 3059) by omega) (show (s9 3049) = (s 3049) + 2 by omega) (show gT A (s 3049) = 8 by omega) (show 0 ≤ (s 3049) by omega)) ?_
                      rintro _ _ ⟨s208, c209, rfl, rfl, hS208, hC209, f210, g211, k212, k213, k214, k215, k216⟩
                      show tt Zi d 190 (110, [some (.inr (.inl 30)), some (.inl v), some (.inl (s 3049)), some (.inl r10), some (.inl 8), none, none], [], n, D, s208, p, c209) _
                      replace k212 : (s208 3050) = 0 → ∃ X, ((okS A (s 3049) ((c 45) ((s9 3061)).toNat)) ∧ VM ((c 46) 0) ((c 46) 1) ((c 46) 2) ((c 46) 3) ((c 46) 4) ((s9 3060)) (gB A ((s 3049) + 5))) ∧ (plQ A (ZM ((c 46) 0) ((c 46) 1) ((c 46) 2) ((c 46) 3) ((c 46) 4) ((s9 3060)) (gB A ((s 3049) + 5))) ((s9 3057)) ((s9 3058)) 5000 0 0 (((s 3049) + 8, 0, 0), mB ((ZM ((c 46) 0) ((c 46) 1) ((c 46) 2) ((c 46) 3) ((c 46) 4) ((s9 3060)) (gB A ((s 3049) + 5))) 3024), 0, fun _ => 0)) = some X ∧ (s208 3049) = (if X.1.2.1 = 255 then X.1.1 + 1 else X.1.1) ∧ mrl X.2.1 ((c209 40)) ((c209 41)) ((c209 42)) ((c209 43)) ∧ trl X.2.2.2 (4096 * (s9 3061)) ((s9 3057)) 0 ((s9 3058)) ((c209 44)) ∧ ofr (4096 * (s9 3061)) ((c 44)) ((c209 44)) := k212
                      replace k213 : (s208 3050) ≠ 0 → ¬ ((okS A (s 3049) ((c 45) ((s9 3061)).toNat)) ∧ VM ((c 46) 0) ((c 46) 1) ((c 46) 2) ((c 46) 3) ((c 46) 4) ((s9 3060)) (gB A ((s 3049) + 5))) ∨ (plQ A (ZM ((c 46) 0) ((c 46) 1) ((c 46) 2) ((c 46) 3) ((c 46) 4) ((s9 3060)) (gB A ((s 3049) + 5))) ((s9 3057)) ((s9 3058)) 5000 0 0 (((s 3049) + 8, 0, 0), mB ((ZM ((c 46) 0) ((c 46) 1) ((c 46) 2) ((c 46) 3) ((c 46) 4) ((s9 3060)) (gB A ((s 3049) + 5))) 3024), 0, fun _ => 0)) = none := k213
                      replace k214 : (s208 3050) ≠ 0 → (c209 40) = (c 40) ∧ (c209 41) = (c 41) ∧ (c209 42) = (c 42) ∧ (c209 43) = (c 43) := k214
                      replace k215 : (s208 3050) = 0 → (s208 3061) = (s9 3061) + 1 := k215
                      replace k216 : (s208 3050) = 0 → (s9 3049) ≤ (s208 3049) := k216
                      have b217 : 0 ≤ (s208 3050) ∧ (s208 3050) ≤ 8 := hS208 3050
                      have b218 : 0 ≤ (s208 3049) ∧ (s208 3049) ≤ 32769 := hS208 3049
                      have b219 : 0 ≤ (s208 3061) ∧ (s208 3061) ≤ 3 := hS208 3061
                      have e220 : s208 3059 = (s9 3059) := (f210 3059 (by decide))
                      have b221 : 0 ≤ (s208 3059) ∧ (s208 3059) ≤ 3 := hS208 3059
                      have e222 : s208 3060 = (s9 3060) := (f210 3060 (by decide))
                      have b223 : 0 ≤ (s208 3060) ∧ (s208 3060) ≤ 255 := hS208 3060
                      have e224 : s208 3057 = (s9 3057) := (f210 3057 (by decide))
                      have b225 : 0 ≤ (s208 3057) ∧ (s208 3057) ≤ 65535 := hS208 3057
                      have e226 : s208 3058 = (s9 3058) := (f210 3058 (by decide))
                      have b227 : 0 ≤ (s208 3058) ∧ (s208 3058) ≤ 65535 := hS208 3058
                      have e228 : s208 3014 = (s9 3014) := (f210 3014 (by decide))
                      have b229 : 0 ≤ (s208 3014) ∧ (s208 3014) ≤ 32768 := hS208 3014
                      have hx230 : tpl A (s208 3014) (c209 34) := by rw [f210 3014 (by decide), g211 34 (by decide)]; exact hx31
                      by_cases hf2 : s208 3050 = 0
                      · skip
                        obtain ⟨X, x0, x1, x2, x3, x4, x5⟩ := k212 hf2
                        clear k212 k213
                        simp only [show s9 3061 = s 3061 by omega, show s9 3060 = s 3060 by omega, show s9 3057 = s 3057 by omega, show s9 3058 = s 3058 by omega] at x0
                        simp only [show s9 3061 = s 3061 by omega, show s9 3060 = s 3060 by omega, show s9 3057 = s 3057 by omega, show s9 3058 = s 3058 by omega] at x1
                        simp only [show s9 3061 = s 3061 by omega, show s9 3060 = s 3060 by omega, show s9 3057 = s 3057 by omega, show s9 3058 = s 3058 by omega] at x4
                        simp only [show s9 3061 = s 3061 by omega, show s9 3060 = s 3060 by omega, show s9 3057 = s 3057 by omega, show s9 3058 = s 3058 by omega] at x5
                        obtain ⟨h1, h2⟩ := rrS_s hp2 (by omega) x0 x1 x4 x5
                        have hsc := k215 hf2
                        refine tt_k 1 (S' := (141, [some (.inr (.inl 30)), some (.inl v), some (.inl (s 3049)), some (.inl r10), some (.inl 8), none, none], [], n, D, s208, p, c209)) rfl ?_
                        exact tt_rtv rfl rfl ⟨s208, c209, rfl, rfl, hS208, hC209, (fr_tr (fr_tr fr_rf f11 (by decide)) f210 (by decide)), (frc_tr frc_rf g211 (by decide)), by show (s208 3050) = 0 → ∃ S2, sec A v (s 3049) S = some S2 ∧ (s208 3049) = S2.1 ∧ rrS A ((s208 3059)) ((s208 3061)) ((s208 3057)) ((s208 3058)) ((s208 3060)) ((c209 45)) ((c209 46)) ((c209 44)) S2 ∧ mrl S2.2.2.2.2.2.1 ((c209 40)) ((c209 41)) ((c209 42)) ((c209 43)); intro hf; exact ⟨scN S X, by rw [show v = 218 by omega]; exact h1, x2, (by rw [show s208 3059 = s 3059 by omega, show s208 3057 = s 3057 by omega, show s208 3058 = s 3058 by omega, show s208 3060 = s 3060 by omega, show s208 3061 = s 3061 + 1 by omega, show c209 45 = c 45 from (g211 45 (by decide)), show c209 46 = c 46 from (g211 46 (by decide))]; exact h2), x3⟩, by show (s208 3050) ≠ 0 → seN A v (s 3049) S; intro hf; exact absurd hf (by omega), by show (s208 3050) ≠ 0 → (c209 40) = c 40 ∧ (c209 41) = c 41 ∧ (c209 42) = c 42 ∧ (c209 43) = c 43; intro hf; exact absurd hf (by omega), by show (s208 3050) = 0 → s 3049 ≤ (s208 3049); omega⟩
                      · skip
                        have hx := k213 hf2
                        clear k212 k213
                        simp only [show s9 3061 = s 3061 by omega, show s9 3060 = s 3060 by omega, show s9 3057 = s 3057 by omega, show s9 3058 = s 3058 by omega] at hx
                        have hsn : seN A v (s 3049) S := Or.inl (by rw [show v = 218 by omega]; exact rrS_sx hp2 (by omega) hx)
                        refine tt_k 1 (S' := (141, [some (.inr (.inl 30)), some (.inl v), some (.inl (s 3049)), some (.inl r10), some (.inl 8), none, none], [], n, D, s208, p, c209)) rfl ?_
                        exact tt_rtv rfl rfl ⟨s208, c209, rfl, rfl, hS208, hC209, (fr_tr (fr_tr fr_rf f11 (by decide)) f210 (by decide)), (frc_tr frc_rf g211 (by decide)), by show (s208 3050) = 0 → ∃ S2, sec A v (s 3049) S = some S2 ∧ (s208 3049) = S2.1 ∧ rrS A ((s208 3059)) ((s208 3061)) ((s208 3057)) ((s208 3058)) ((s208 3060)) ((c209 45)) ((c209 46)) ((c209 44)) S2 ∧ mrl S2.2.2.2.2.2.1 ((c209 40)) ((c209 41)) ((c209 42)) ((c209 43)); intro hf; exact absurd hf (by omega), by show (s208 3050) ≠ 0 → seN A v (s 3049) S; intro _; exact hsn, by show (s208 3050) ≠ 0 → (c209 40) = c 40 ∧ (c209 41) = c 41 ∧ (c209 42) = c 42 ∧ (c209 43) = c 43; intro hf; exact k214 hf, by show (s208 3050) = 0 → s 3049 ≤ (s208 3049); intro hf; exact absurd hf (by omega)⟩
                  · exfalso; omega
                · exfalso; omega
              · exfalso; omega
            · show tt Zi d 190 (55, [some (.inr (.inl 30)), some (.inl v), some (.inl (s 3049)), some (.inl r10), some (.inl 8), none, none], [], n, D, s9, p, c) _
              refine tt_k 3 (S' := (58, [some (.inr (.inl 30)), some (.inl v), some (.inl (s 3049)), some (.inl r10), some (.inl 8), none, none], [.inl (s 3049), .inl 4, .inr (.inl 30)], n, D, s9, p, c)) rfl ?_
              refine tt_cl (by omega) rfl (k_fail (Zi := Zi) (D := D) (s := s9) (p := p) (c := c) (by omega) hS9 hC 4 (s 3049) (by omega) (by omega)) ?_
              rintro _ _ ⟨s231, rfl, rfl, hS231, f232, k233, k234⟩
              show tt Zi d 190 (61, [some (.inr (.inl 30)), some (.inl v), some (.inl (s 3049)), some (.inl r10), some (.inl 8), none, none], [], n, D, s231, p, c) _
              replace k233 : ((s9 3050) = 0 → (s231 3050) = 4 ∧ (s231 3051) = (s 3049)) := k233
              replace k234 : ((s9 3050) ≠ 0 → (s231 3050) = (s9 3050) ∧ (s231 3051) = (s9 3051)) := k234
              have b235 : 0 ≤ (s231 3050) ∧ (s231 3050) ≤ 8 := hS231 3050
              have b236 : -1 ≤ (s231 3051) ∧ (s231 3051) ≤ 32769 := hS231 3051
              have b237 : -1 ≤ (s9 3051) ∧ (s9 3051) ≤ 32769 := hS9 3051
              have e238 : s231 3049 = (s9 3049) := (f232 3049 (by decide))
              have b239 : 0 ≤ (s231 3049) ∧ (s231 3049) ≤ 32769 := hS231 3049
              have e240 : s231 3061 = (s9 3061) := (f232 3061 (by decide))
              have b241 : 0 ≤ (s231 3061) ∧ (s231 3061) ≤ 3 := hS231 3061
              have e242 : s231 3059 = (s9 3059) := (f232 3059 (by decide))
              have b243 : 0 ≤ (s231 3059) ∧ (s231 3059) ≤ 3 := hS231 3059
              have e244 : s231 3060 = (s9 3060) := (f232 3060 (by decide))
              have b245 : 0 ≤ (s231 3060) ∧ (s231 3060) ≤ 255 := hS231 3060
              have e246 : s231 3057 = (s9 3057) := (f232 3057 (by decide))
              have b247 : 0 ≤ (s231 3057) ∧ (s231 3057) ≤ 65535 := hS231 3057
              have e248 : s231 3058 = (s9 3058) := (f232 3058 (by decide))
              have b249 : 0 ≤ (s231 3058) ∧ (s231 3058) ≤ 65535 := hS231 3058
              have e250 : s231 3014 = (s9 3014) := (f232 3014 (by decide))
              have b251 : 0 ≤ (s231 3014) ∧ (s231 3014) ≤ 32768 := hS231 3014
              have hx252 : tpl A (s231 3014) (c 34) := by rw [f232 3014 (by decide)]; exact hx31
              have hff : s231 3050 ≠ 0 := by have h := k233 (by omega); omega
              have hsn : seN A v (s 3049) S := Or.inl (sec_len (by omega))
              refine tt_k 2 (S' := (65, [some (.inr (.inl 30)), some (.inl v), some (.inl (s 3049)), some (.inl r10), some (.inl 8), none, none], [.inl (s231 3050)], n, D, s231, p, c)) rfl ?_
              refine tz_le (x := (s231 3050)) rfl rfl (by omega) (fun h253 => ?_) (fun h253 => ?_)
              · exfalso; omega
              · show tt Zi d 190 (68, [some (.inr (.inl 30)), some (.inl v), some (.inl (s 3049)), some (.inl r10), some (.inl 8), none, none], [], n, D, s231, p, c) _
                exact tt_rtv rfl rfl ⟨s231, c, rfl, rfl, hS231, hC, (fr_tr (fr_tr fr_rf f11 (by decide)) f232 (by decide)), frc_rf, by show (s231 3050) = 0 → ∃ S2, sec A v (s 3049) S = some S2 ∧ (s231 3049) = S2.1 ∧ rrS A ((s231 3059)) ((s231 3061)) ((s231 3057)) ((s231 3058)) ((s231 3060)) ((c 45)) ((c 46)) ((c 44)) S2 ∧ mrl S2.2.2.2.2.2.1 ((c 40)) ((c 41)) ((c 42)) ((c 43)); intro hf; exact absurd hf (by omega), by show (s231 3050) ≠ 0 → seN A v (s 3049) S; intro _; exact hsn, by show (s231 3050) ≠ 0 → (c 40) = c 40 ∧ (c 41) = c 41 ∧ (c 42) = c 42 ∧ (c 43) = c 43; intro hf; exact ⟨rfl, rfl, rfl, rfl⟩, by show (s231 3050) = 0 → s 3049 ≤ (s231 3049); intro hf; exact absurd hf (by omega)⟩
    · show tt Zi d 190 (17, [some (.inr (.inl 30)), some (.inl v), some (.inl (s 3049)), some (.inl r10), none, none, none], [], n, D, s9, p, c) _
      refine tt_k 5 (S' := (41, [some (.inr (.inl 30)), some (.inl v), some (.inl (s 3049)), some (.inl r10), some (.inl 13), none, none], [.inl (s9 3050)], n, D, s9, p, c)) rfl ?_
      refine tz_ne (x := (s9 3050)) rfl rfl (by omega) (fun h254 => ?_) (fun h254 => ?_)
      · exfalso; omega
      · show tt Zi d 190 (44, [some (.inr (.inl 30)), some (.inl v), some (.inl (s 3049)), some (.inl r10), some (.inl 13), none, none], [], n, D, s9, p, c) _
        refine tt_k 2 (S' := (46, [some (.inr (.inl 30)), some (.inl v), some (.inl (s 3049)), some (.inl r10), some (.inl 13), none, none], [.inl 2, .inl r10], n, D, s9, p, c)) rfl ?_
        refine tb_lt (x := r10) (y := 2) rfl rfl (by omega) (fun h255 => ?_) (fun h255 => ?_)
        · show tt Zi d 190 (55, [some (.inr (.inl 30)), some (.inl v), some (.inl (s 3049)), some (.inl r10), some (.inl 13), none, none], [], n, D, s9, p, c) _
          refine tt_k 3 (S' := (58, [some (.inr (.inl 30)), some (.inl v), some (.inl (s 3049)), some (.inl r10), some (.inl 13), none, none], [.inl (s 3049), .inl 4, .inr (.inl 30)], n, D, s9, p, c)) rfl ?_
          refine tt_cl (by omega) rfl (k_fail (Zi := Zi) (D := D) (s := s9) (p := p) (c := c) (by omega) hS9 hC 4 (s 3049) (by omega) (by omega)) ?_
          rintro _ _ ⟨s256, rfl, rfl, hS256, f257, k258, k259⟩
          show tt Zi d 190 (61, [some (.inr (.inl 30)), some (.inl v), some (.inl (s 3049)), some (.inl r10), some (.inl 13), none, none], [], n, D, s256, p, c) _
          replace k258 : ((s9 3050) = 0 → (s256 3050) = 4 ∧ (s256 3051) = (s 3049)) := k258
          replace k259 : ((s9 3050) ≠ 0 → (s256 3050) = (s9 3050) ∧ (s256 3051) = (s9 3051)) := k259
          have b260 : 0 ≤ (s256 3050) ∧ (s256 3050) ≤ 8 := hS256 3050
          have b261 : -1 ≤ (s256 3051) ∧ (s256 3051) ≤ 32769 := hS256 3051
          have b262 : -1 ≤ (s9 3051) ∧ (s9 3051) ≤ 32769 := hS9 3051
          have e263 : s256 3049 = (s9 3049) := (f257 3049 (by decide))
          have b264 : 0 ≤ (s256 3049) ∧ (s256 3049) ≤ 32769 := hS256 3049
          have e265 : s256 3061 = (s9 3061) := (f257 3061 (by decide))
          have b266 : 0 ≤ (s256 3061) ∧ (s256 3061) ≤ 3 := hS256 3061
          have e267 : s256 3059 = (s9 3059) := (f257 3059 (by decide))
          have b268 : 0 ≤ (s256 3059) ∧ (s256 3059) ≤ 3 := hS256 3059
          have e269 : s256 3060 = (s9 3060) := (f257 3060 (by decide))
          have b270 : 0 ≤ (s256 3060) ∧ (s256 3060) ≤ 255 := hS256 3060
          have e271 : s256 3057 = (s9 3057) := (f257 3057 (by decide))
          have b272 : 0 ≤ (s256 3057) ∧ (s256 3057) ≤ 65535 := hS256 3057
          have e273 : s256 3058 = (s9 3058) := (f257 3058 (by decide))
          have b274 : 0 ≤ (s256 3058) ∧ (s256 3058) ≤ 65535 := hS256 3058
          have e275 : s256 3014 = (s9 3014) := (f257 3014 (by decide))
          have b276 : 0 ≤ (s256 3014) ∧ (s256 3014) ≤ 32768 := hS256 3014
          have hx277 : tpl A (s256 3014) (c 34) := by rw [f257 3014 (by decide)]; exact hx31
          have hff : s256 3050 ≠ 0 := by have h := k258 (by omega); omega
          have hsn : seN A v (s 3049) S := Or.inl (sec_len (by omega))
          refine tt_k 2 (S' := (65, [some (.inr (.inl 30)), some (.inl v), some (.inl (s 3049)), some (.inl r10), some (.inl 13), none, none], [.inl (s256 3050)], n, D, s256, p, c)) rfl ?_
          refine tz_le (x := (s256 3050)) rfl rfl (by omega) (fun h278 => ?_) (fun h278 => ?_)
          · exfalso; omega
          · show tt Zi d 190 (68, [some (.inr (.inl 30)), some (.inl v), some (.inl (s 3049)), some (.inl r10), some (.inl 13), none, none], [], n, D, s256, p, c) _
            exact tt_rtv rfl rfl ⟨s256, c, rfl, rfl, hS256, hC, (fr_tr (fr_tr fr_rf f11 (by decide)) f257 (by decide)), frc_rf, by show (s256 3050) = 0 → ∃ S2, sec A v (s 3049) S = some S2 ∧ (s256 3049) = S2.1 ∧ rrS A ((s256 3059)) ((s256 3061)) ((s256 3057)) ((s256 3058)) ((s256 3060)) ((c 45)) ((c 46)) ((c 44)) S2 ∧ mrl S2.2.2.2.2.2.1 ((c 40)) ((c 41)) ((c 42)) ((c 43)); intro hf; exact absurd hf (by omega), by show (s256 3050) ≠ 0 → seN A v (s 3049) S; intro _; exact hsn, by show (s256 3050) ≠ 0 → (c 40) = c 40 ∧ (c 41) = c 41 ∧ (c 42) = c 42 ∧ (c 43) = c 43; intro hf; exact ⟨rfl, rfl, rfl, rfl⟩, by show (s256 3050) = 0 → s 3049 ≤ (s256 3049); intro hf; exact absurd hf (by omega)⟩
        · show tt Zi d 190 (49, [some (.inr (.inl 30)), some (.inl v), some (.inl (s 3049)), some (.inl r10), some (.inl 13), none, none], [], n, D, s9, p, c) _
          refine tt_k 2 (S' := (52, [some (.inr (.inl 30)), some (.inl v), some (.inl (s 3049)), some (.inl r10), some (.inl 13), none, none], [.inl 13, .inl r10], n, D, s9, p, c)) rfl ?_
          refine tb_eq (x := r10) (y := 13) rfl rfl (by omega) (fun h279 => ?_) (fun h279 => ?_)
          · show tt Zi d 190 (61, [some (.inr (.inl 30)), some (.inl v), some (.inl (s 3049)), some (.inl r10), some (.inl 13), none, none], [], n, D, s9, p, c) _
            refine tt_k 2 (S' := (65, [some (.inr (.inl 30)), some (.inl v), some (.inl (s 3049)), some (.inl r10), some (.inl 13), none, none], [.inl (s9 3050)], n, D, s9, p, c)) rfl ?_
            refine tz_le (x := (s9 3050)) rfl rfl (by omega) (fun h280 => ?_) (fun h280 => ?_)
            · show tt Zi d 190 (69, [some (.inr (.inl 30)), some (.inl v), some (.inl (s 3049)), some (.inl r10), some (.inl 13), none, none], [], n, D, s9, p, c) _
              refine tt_k 2 (S' := (73, [some (.inr (.inl 30)), some (.inl v), some (.inl (s 3049)), some (.inl r10), some (.inl 13), none, none], [.inl 247, .inl v], n, D, s9, p, c)) rfl ?_
              refine tb_ne (x := v) (y := 247) rfl rfl (by omega) (fun h281 => ?_) (fun h281 => ?_)
              · show tt Zi d 190 (85, [some (.inr (.inl 30)), some (.inl v), some (.inl (s 3049)), some (.inl r10), some (.inl 13), none, none], [], n, D, s9, p, c) _
                refine tt_k 2 (S' := (89, [some (.inr (.inl 30)), some (.inl v), some (.inl (s 3049)), some (.inl r10), some (.inl 13), none, none], [.inl 248, .inl v], n, D, s9, p, c)) rfl ?_
                refine tb_ne (x := v) (y := 248) rfl rfl (by omega) (fun h282 => ?_) (fun h282 => ?_)
                · exfalso; omega
                · show tt Zi d 190 (92, [some (.inr (.inl 30)), some (.inl v), some (.inl (s 3049)), some (.inl r10), some (.inl 13), none, none], [], n, D, s9, p, c) _
                  refine tt_k 1 (S' := (93, [some (.inr (.inl 30)), some (.inl v), some (.inl (s 3049)), some (.inl r10), some (.inl 13), none, none], [.inr (.inl 30)], n, D, s9, p, c)) rfl ?_
                  refine tt_cl (by omega) rfl (v_readMeasures (Zi := Zi) (D := D) (s := s9) (p := p) (c := c) (by omega) hS9 hC A (s 3049) hx31 (show (s9 3050) = 0 by omega) (show (s9 3049) = (s 3049) + 2 by omega) (show gT A (s 3049) = 13 by omega) (show 0 ≤ (s 3049) by omega)) ?_
                  rintro _ _ ⟨s283, c284, rfl, rfl, hS283, hC284, f285, g286, k287, k288, k289, k290, k291⟩
                  show tt Zi d 190 (96, [some (.inr (.inl 30)), some (.inl v), some (.inl (s 3049)), some (.inl r10), some (.inl 13), none, none], [], n, D, s283, p, c284) _
                  replace k287 : (s283 3050) = 0 → okM A (s 3049) := k287
                  replace k288 : (s283 3050) ≠ 0 → ¬ okM A (s 3049) := k288
                  replace k289 : (s283 3050) = 0 → (s283 3049) = (s 3049) + 13 ∧ (s283 3049) ≤ (s9 3014) := k289
                  replace k290 : (s283 3050) = 0 → ∀ i : Nat, i < 5 → (c284 46) i = qM A (s 3049) i := k290
                  replace k291 : (s9 3049) ≤ (s283 3049) := k291
                  have b292 : 0 ≤ (s283 3050) ∧ (s283 3050) ≤ 8 := hS283 3050
                  have b293 : 0 ≤ (s283 3049) ∧ (s283 3049) ≤ 32769 := hS283 3049
                  have e294 : s283 3061 = (s9 3061) := (f285 3061 (by decide))
                  have b295 : 0 ≤ (s283 3061) ∧ (s283 3061) ≤ 3 := hS283 3061
                  have e296 : s283 3059 = (s9 3059) := (f285 3059 (by decide))
                  have b297 : 0 ≤ (s283 3059) ∧ (s283 3059) ≤ 3 := hS283 3059
                  have e298 : s283 3060 = (s9 3060) := (f285 3060 (by decide))
                  have b299 : 0 ≤ (s283 3060) ∧ (s283 3060) ≤ 255 := hS283 3060
                  have e300 : s283 3057 = (s9 3057) := (f285 3057 (by decide))
                  have b301 : 0 ≤ (s283 3057) ∧ (s283 3057) ≤ 65535 := hS283 3057
                  have e302 : s283 3058 = (s9 3058) := (f285 3058 (by decide))
                  have b303 : 0 ≤ (s283 3058) ∧ (s283 3058) ≤ 65535 := hS283 3058
                  have e304 : s283 3014 = (s9 3014) := (f285 3014 (by decide))
                  have b305 : 0 ≤ (s283 3014) ∧ (s283 3014) ≤ 32768 := hS283 3014
                  have hx306 : tpl A (s283 3014) (c284 34) := by rw [f285 3014 (by decide), g286 34 (by decide)]; exact hx31
                  by_cases hf2 : s283 3050 = 0
                  · skip
                    obtain ⟨h1, h2⟩ := rrS_m hp2 (k287 hf2) (k290 hf2)
                    have ha := k289 hf2
                    refine tt_k 1 (S' := (141, [some (.inr (.inl 30)), some (.inl v), some (.inl (s 3049)), some (.inl r10), some (.inl 13), none, none], [], n, D, s283, p, c284)) rfl ?_
                    have hk4 : mrl S.2.2.2.2.2.1 (c284 40) (c284 41) (c284 42) (c284 43) := by rw [show c284 40 = c 40 from (g286 40 (by decide)), show c284 41 = c 41 from (g286 41 (by decide)), show c284 42 = c 42 from (g286 42 (by decide)), show c284 43 = c 43 from (g286 43 (by decide))]; exact hp3
                    exact tt_rtv rfl rfl ⟨s283, c284, rfl, rfl, hS283, hC284, (fr_tr (fr_tr fr_rf f11 (by decide)) f285 (by decide)), (frc_tr frc_rf g286 (by decide)), by show (s283 3050) = 0 → ∃ S2, sec A v (s 3049) S = some S2 ∧ (s283 3049) = S2.1 ∧ rrS A ((s283 3059)) ((s283 3061)) ((s283 3057)) ((s283 3058)) ((s283 3060)) ((c284 45)) ((c284 46)) ((c284 44)) S2 ∧ mrl S2.2.2.2.2.2.1 ((c284 40)) ((c284 41)) ((c284 42)) ((c284 43)); intro hf; exact ⟨(s 3049 + 13, S.2.1, S.2.2.1, S.2.2.2.1, qM A (s 3049), S.2.2.2.2.2), by rw [show v = 248 by omega]; exact h1, by omega, (by rw [show s283 3059 = s 3059 by omega, show s283 3061 = s 3061 by omega, show s283 3057 = s 3057 by omega, show s283 3058 = s 3058 by omega, show s283 3060 = s 3060 by omega, show c284 45 = c 45 from (g286 45 (by decide)), show c284 44 = c 44 from (g286 44 (by decide))]; exact h2), hk4⟩, by show (s283 3050) ≠ 0 → seN A v (s 3049) S; intro hf; exact absurd hf (by omega), by show (s283 3050) ≠ 0 → (c284 40) = c 40 ∧ (c284 41) = c 41 ∧ (c284 42) = c 42 ∧ (c284 43) = c 43; intro hf; exact absurd hf (by omega), by show (s283 3050) = 0 → s 3049 ≤ (s283 3049); omega⟩
                  · skip
                    have hsn : seN A v (s 3049) S := Or.inl (by rw [show v = 248 by omega]; exact sec_mn (k288 hf2))
                    refine tt_k 1 (S' := (141, [some (.inr (.inl 30)), some (.inl v), some (.inl (s 3049)), some (.inl r10), some (.inl 13), none, none], [], n, D, s283, p, c284)) rfl ?_
                    exact tt_rtv rfl rfl ⟨s283, c284, rfl, rfl, hS283, hC284, (fr_tr (fr_tr fr_rf f11 (by decide)) f285 (by decide)), (frc_tr frc_rf g286 (by decide)), by show (s283 3050) = 0 → ∃ S2, sec A v (s 3049) S = some S2 ∧ (s283 3049) = S2.1 ∧ rrS A ((s283 3059)) ((s283 3061)) ((s283 3057)) ((s283 3058)) ((s283 3060)) ((c284 45)) ((c284 46)) ((c284 44)) S2 ∧ mrl S2.2.2.2.2.2.1 ((c284 40)) ((c284 41)) ((c284 42)) ((c284 43)); intro hf; exact absurd hf (by omega), by show (s283 3050) ≠ 0 → seN A v (s 3049) S; intro _; exact hsn, by show (s283 3050) ≠ 0 → (c284 40) = c 40 ∧ (c284 41) = c 41 ∧ (c284 42) = c 42 ∧ (c284 43) = c 43; intro hf; exact ⟨(g286 40 (by decide)), (g286 41 (by decide)), (g286 42 (by decide)), (g286 43 (by decide))⟩, by show (s283 3050) = 0 → s 3049 ≤ (s283 3049); intro hf; exact absurd hf (by omega)⟩
              · exfalso; omega
            · exfalso; omega
          · show tt Zi d 190 (55, [some (.inr (.inl 30)), some (.inl v), some (.inl (s 3049)), some (.inl r10), some (.inl 13), none, none], [], n, D, s9, p, c) _
            refine tt_k 3 (S' := (58, [some (.inr (.inl 30)), some (.inl v), some (.inl (s 3049)), some (.inl r10), some (.inl 13), none, none], [.inl (s 3049), .inl 4, .inr (.inl 30)], n, D, s9, p, c)) rfl ?_
            refine tt_cl (by omega) rfl (k_fail (Zi := Zi) (D := D) (s := s9) (p := p) (c := c) (by omega) hS9 hC 4 (s 3049) (by omega) (by omega)) ?_
            rintro _ _ ⟨s307, rfl, rfl, hS307, f308, k309, k310⟩
            show tt Zi d 190 (61, [some (.inr (.inl 30)), some (.inl v), some (.inl (s 3049)), some (.inl r10), some (.inl 13), none, none], [], n, D, s307, p, c) _
            replace k309 : ((s9 3050) = 0 → (s307 3050) = 4 ∧ (s307 3051) = (s 3049)) := k309
            replace k310 : ((s9 3050) ≠ 0 → (s307 3050) = (s9 3050) ∧ (s307 3051) = (s9 3051)) := k310
            have b311 : 0 ≤ (s307 3050) ∧ (s307 3050) ≤ 8 := hS307 3050
            have b312 : -1 ≤ (s307 3051) ∧ (s307 3051) ≤ 32769 := hS307 3051
            have b313 : -1 ≤ (s9 3051) ∧ (s9 3051) ≤ 32769 := hS9 3051
            have e314 : s307 3049 = (s9 3049) := (f308 3049 (by decide))
            have b315 : 0 ≤ (s307 3049) ∧ (s307 3049) ≤ 32769 := hS307 3049
            have e316 : s307 3061 = (s9 3061) := (f308 3061 (by decide))
            have b317 : 0 ≤ (s307 3061) ∧ (s307 3061) ≤ 3 := hS307 3061
            have e318 : s307 3059 = (s9 3059) := (f308 3059 (by decide))
            have b319 : 0 ≤ (s307 3059) ∧ (s307 3059) ≤ 3 := hS307 3059
            have e320 : s307 3060 = (s9 3060) := (f308 3060 (by decide))
            have b321 : 0 ≤ (s307 3060) ∧ (s307 3060) ≤ 255 := hS307 3060
            have e322 : s307 3057 = (s9 3057) := (f308 3057 (by decide))
            have b323 : 0 ≤ (s307 3057) ∧ (s307 3057) ≤ 65535 := hS307 3057
            have e324 : s307 3058 = (s9 3058) := (f308 3058 (by decide))
            have b325 : 0 ≤ (s307 3058) ∧ (s307 3058) ≤ 65535 := hS307 3058
            have e326 : s307 3014 = (s9 3014) := (f308 3014 (by decide))
            have b327 : 0 ≤ (s307 3014) ∧ (s307 3014) ≤ 32768 := hS307 3014
            have hx328 : tpl A (s307 3014) (c 34) := by rw [f308 3014 (by decide)]; exact hx31
            have hff : s307 3050 ≠ 0 := by have h := k309 (by omega); omega
            have hsn : seN A v (s 3049) S := Or.inl (sec_len (by omega))
            refine tt_k 2 (S' := (65, [some (.inr (.inl 30)), some (.inl v), some (.inl (s 3049)), some (.inl r10), some (.inl 13), none, none], [.inl (s307 3050)], n, D, s307, p, c)) rfl ?_
            refine tz_le (x := (s307 3050)) rfl rfl (by omega) (fun h329 => ?_) (fun h329 => ?_)
            · exfalso; omega
            · show tt Zi d 190 (68, [some (.inr (.inl 30)), some (.inl v), some (.inl (s 3049)), some (.inl r10), some (.inl 13), none, none], [], n, D, s307, p, c) _
              exact tt_rtv rfl rfl ⟨s307, c, rfl, rfl, hS307, hC, (fr_tr (fr_tr fr_rf f11 (by decide)) f308 (by decide)), frc_rf, by show (s307 3050) = 0 → ∃ S2, sec A v (s 3049) S = some S2 ∧ (s307 3049) = S2.1 ∧ rrS A ((s307 3059)) ((s307 3061)) ((s307 3057)) ((s307 3058)) ((s307 3060)) ((c 45)) ((c 46)) ((c 44)) S2 ∧ mrl S2.2.2.2.2.2.1 ((c 40)) ((c 41)) ((c 42)) ((c 43)); intro hf; exact absurd hf (by omega), by show (s307 3050) ≠ 0 → seN A v (s 3049) S; intro _; exact hsn, by show (s307 3050) ≠ 0 → (c 40) = c 40 ∧ (c 41) = c 41 ∧ (c 42) = c 42 ∧ (c 43) = c 43; intro hf; exact ⟨rfl, rfl, rfl, rfl⟩, by show (s307 3050) = 0 → s 3049 ≤ (s307 3049); intro hf; exact absurd hf (by omega)⟩
  · skip
    have hsn : seN A v (s 3049) S := Or.inl (sec_short (k14 (by omega) hf1))
    refine tt_k 3 (S' := (14, [some (.inr (.inl 30)), some (.inl v), some (.inl (s 3049)), some (.inl r10), none, none, none], [.inl 248, .inl v], n, D, s9, p, c)) rfl ?_
    refine tb_ne (x := v) (y := 248) rfl rfl (by omega) (fun h330 => ?_) (fun h330 => ?_)
    · show tt Zi d 190 (22, [some (.inr (.inl 30)), some (.inl v), some (.inl (s 3049)), some (.inl r10), none, none, none], [], n, D, s9, p, c) _
      refine tt_k 2 (S' := (26, [some (.inr (.inl 30)), some (.inl v), some (.inl (s 3049)), some (.inl r10), none, none, none], [.inl 218, .inl v], n, D, s9, p, c)) rfl ?_
      refine tb_ne (x := v) (y := 218) rfl rfl (by omega) (fun h331 => ?_) (fun h331 => ?_)
      · show tt Zi d 190 (34, [some (.inr (.inl 30)), some (.inl v), some (.inl (s 3049)), some (.inl r10), none, none, none], [], n, D, s9, p, c) _
        refine tt_k 4 (S' := (41, [some (.inr (.inl 30)), some (.inl v), some (.inl (s 3049)), some (.inl r10), some (.inl r10), none, none], [.inl (s9 3050)], n, D, s9, p, c)) rfl ?_
        refine tz_ne (x := (s9 3050)) rfl rfl (by omega) (fun h332 => ?_) (fun h332 => ?_)
        · show tt Zi d 190 (61, [some (.inr (.inl 30)), some (.inl v), some (.inl (s 3049)), some (.inl r10), some (.inl r10), none, none], [], n, D, s9, p, c) _
          refine tt_k 2 (S' := (65, [some (.inr (.inl 30)), some (.inl v), some (.inl (s 3049)), some (.inl r10), some (.inl r10), none, none], [.inl (s9 3050)], n, D, s9, p, c)) rfl ?_
          refine tz_le (x := (s9 3050)) rfl rfl (by omega) (fun h333 => ?_) (fun h333 => ?_)
          · exfalso; omega
          · show tt Zi d 190 (68, [some (.inr (.inl 30)), some (.inl v), some (.inl (s 3049)), some (.inl r10), some (.inl r10), none, none], [], n, D, s9, p, c) _
            exact tt_rtv rfl rfl ⟨s9, c, rfl, rfl, hS9, hC, (fr_tr fr_rf f11 (by decide)), frc_rf, by show (s9 3050) = 0 → ∃ S2, sec A v (s 3049) S = some S2 ∧ (s9 3049) = S2.1 ∧ rrS A ((s9 3059)) ((s9 3061)) ((s9 3057)) ((s9 3058)) ((s9 3060)) ((c 45)) ((c 46)) ((c 44)) S2 ∧ mrl S2.2.2.2.2.2.1 ((c 40)) ((c 41)) ((c 42)) ((c 43)); intro hf; exact absurd hf (by omega), by show (s9 3050) ≠ 0 → seN A v (s 3049) S; intro _; exact hsn, by show (s9 3050) ≠ 0 → (c 40) = c 40 ∧ (c 41) = c 41 ∧ (c 42) = c 42 ∧ (c 43) = c 43; intro hf; exact ⟨rfl, rfl, rfl, rfl⟩, by show (s9 3050) = 0 → s 3049 ≤ (s9 3049); intro hf; exact absurd hf (by omega)⟩
        · exfalso; omega
      · show tt Zi d 190 (29, [some (.inr (.inl 30)), some (.inl v), some (.inl (s 3049)), some (.inl r10), none, none, none], [], n, D, s9, p, c) _
        refine tt_k 5 (S' := (41, [some (.inr (.inl 30)), some (.inl v), some (.inl (s 3049)), some (.inl r10), some (.inl 8), none, none], [.inl (s9 3050)], n, D, s9, p, c)) rfl ?_
        refine tz_ne (x := (s9 3050)) rfl rfl (by omega) (fun h334 => ?_) (fun h334 => ?_)
        · show tt Zi d 190 (61, [some (.inr (.inl 30)), some (.inl v), some (.inl (s 3049)), some (.inl r10), some (.inl 8), none, none], [], n, D, s9, p, c) _
          refine tt_k 2 (S' := (65, [some (.inr (.inl 30)), some (.inl v), some (.inl (s 3049)), some (.inl r10), some (.inl 8), none, none], [.inl (s9 3050)], n, D, s9, p, c)) rfl ?_
          refine tz_le (x := (s9 3050)) rfl rfl (by omega) (fun h335 => ?_) (fun h335 => ?_)
          · exfalso; omega
          · show tt Zi d 190 (68, [some (.inr (.inl 30)), some (.inl v), some (.inl (s 3049)), some (.inl r10), some (.inl 8), none, none], [], n, D, s9, p, c) _
            exact tt_rtv rfl rfl ⟨s9, c, rfl, rfl, hS9, hC, (fr_tr fr_rf f11 (by decide)), frc_rf, by show (s9 3050) = 0 → ∃ S2, sec A v (s 3049) S = some S2 ∧ (s9 3049) = S2.1 ∧ rrS A ((s9 3059)) ((s9 3061)) ((s9 3057)) ((s9 3058)) ((s9 3060)) ((c 45)) ((c 46)) ((c 44)) S2 ∧ mrl S2.2.2.2.2.2.1 ((c 40)) ((c 41)) ((c 42)) ((c 43)); intro hf; exact absurd hf (by omega), by show (s9 3050) ≠ 0 → seN A v (s 3049) S; intro _; exact hsn, by show (s9 3050) ≠ 0 → (c 40) = c 40 ∧ (c 41) = c 41 ∧ (c 42) = c 42 ∧ (c 43) = c 43; intro hf; exact ⟨rfl, rfl, rfl, rfl⟩, by show (s9 3050) = 0 → s 3049 ≤ (s9 3049); intro hf; exact absurd hf (by omega)⟩
        · exfalso; omega
    · show tt Zi d 190 (17, [some (.inr (.inl 30)), some (.inl v), some (.inl (s 3049)), some (.inl r10), none, none, none], [], n, D, s9, p, c) _
      refine tt_k 5 (S' := (41, [some (.inr (.inl 30)), some (.inl v), some (.inl (s 3049)), some (.inl r10), some (.inl 13), none, none], [.inl (s9 3050)], n, D, s9, p, c)) rfl ?_
      refine tz_ne (x := (s9 3050)) rfl rfl (by omega) (fun h336 => ?_) (fun h336 => ?_)
      · show tt Zi d 190 (61, [some (.inr (.inl 30)), some (.inl v), some (.inl (s 3049)), some (.inl r10), some (.inl 13), none, none], [], n, D, s9, p, c) _
        refine tt_k 2 (S' := (65, [some (.inr (.inl 30)), some (.inl v), some (.inl (s 3049)), some (.inl r10), some (.inl 13), none, none], [.inl (s9 3050)], n, D, s9, p, c)) rfl ?_
        refine tz_le (x := (s9 3050)) rfl rfl (by omega) (fun h337 => ?_) (fun h337 => ?_)
        · exfalso; omega
        · show tt Zi d 190 (68, [some (.inr (.inl 30)), some (.inl v), some (.inl (s 3049)), some (.inl r10), some (.inl 13), none, none], [], n, D, s9, p, c) _
          exact tt_rtv rfl rfl ⟨s9, c, rfl, rfl, hS9, hC, (fr_tr fr_rf f11 (by decide)), frc_rf, by show (s9 3050) = 0 → ∃ S2, sec A v (s 3049) S = some S2 ∧ (s9 3049) = S2.1 ∧ rrS A ((s9 3059)) ((s9 3061)) ((s9 3057)) ((s9 3058)) ((s9 3060)) ((c 45)) ((c 46)) ((c 44)) S2 ∧ mrl S2.2.2.2.2.2.1 ((c 40)) ((c 41)) ((c 42)) ((c 43)); intro hf; exact absurd hf (by omega), by show (s9 3050) ≠ 0 → seN A v (s 3049) S; intro _; exact hsn, by show (s9 3050) ≠ 0 → (c 40) = c 40 ∧ (c 41) = c 41 ∧ (c 42) = c 42 ∧ (c 43) = c 43; intro hf; exact ⟨rfl, rfl, rfl, rfl⟩, by show (s9 3050) = 0 → s 3049 ≤ (s9 3049); intro hf; exact absurd hf (by omega)⟩
      · exfalso; omega
