/-! the reference reads a run -/
set_option maxRecDepth 100000 in
set_option maxHeartbeats 4000000 in
theorem k_readRun_L11 {Zi : Nat → Option (Nat × (Nat → Int))} {d n : Nat} {D : Nat → Nat × Nat} {s : Nat → Int} {p : Nat → Nat} {c : Nat → Nat → Int}  {Q : mi_Rs → mi_H → Prop} (hd : 6 ≤ d) (hS : bS s) (hC : bC D c) (t : Int) (x : Int) (y : Int) (run : Int) (b_x : 0 ≤ x ∧ x ≤ 63) (b_y : 0 ≤ y ∧ y ≤ 63) (b_run : 0 ≤ run ∧ run ≤ 65535) (hc_mv : mv s) (hq0 : s 3036 = 0 ∧ x < s 3037) (hq1 : run ≤ s 3017) (hq2 : 0 ≤ t ∧ t + s 3037 - x ≤ 4096)
  (hK : ∀ (n_ : Int) (mo : Int) (o_6 : Option mi_V) (o_7 : Option mi_V) (o_8 : Option mi_V) (s0 : Nat → Int) (c0 : Nat → Nat → Int) (b_n_ : 0 ≤ n_ ∧ n_ ≤ 64) (b_mo : 0 ≤ mo ∧ mo ≤ 1) (hS0 : bS s0) (hF0 : fr s s0 [3035, 3041, 3042, 3043, 3044, 3045, 3046, 3049, 3050, 3051, 3052, 3053, 3054]) (hC0 : bC D c0) (hG0 : frc c c0 [36, 37, 39, 44]) (i0 : s0 3050 = 0 → pl s0 (t + n_) c0) (i1 : s0 3050 = 0 → tb (s0 3037) (s0 3039) (s0 3017) (c0 44) (x + n_) y) (i2 : x + n_ ≤ s 3037) (i3 : mo = 1 → x + n_ < s 3037) (i4 : mo = 1 ∨ 1 ≤ n_ ∨ s0 3050 ≠ 0) (i5 : s 3049 ≤ s0 3049) (i6 : s 3049 ≤ 32768 → s0 3049 ≤ 32768) (i7 : 0 ≤ s0 3035 ∧ s0 3035 ≤ 22), mo = 0 ∨ s0 3050 ≠ 0 → tt Zi d 172 (232, [some (.inr (.inl 30)), some (.inl x), some (.inl y), some (.inl run), some (.inl n_), some (.inl mo), o_6, o_7, o_8], [], n, D, s0, p, c0) Q) :
  ∀ (m : Nat) (n_ : Int) (mo : Int) (o_6 : Option mi_V) (o_7 : Option mi_V) (o_8 : Option mi_V) (s0 : Nat → Int) (c0 : Nat → Nat → Int) (b_n_ : 0 ≤ n_ ∧ n_ ≤ 64) (b_mo : 0 ≤ mo ∧ mo ≤ 1) (hS0 : bS s0) (hF0 : fr s s0 [3035, 3041, 3042, 3043, 3044, 3045, 3046, 3049, 3050, 3051, 3052, 3053, 3054]) (hC0 : bC D c0) (hG0 : frc c c0 [36, 37, 39, 44]) (i0 : s0 3050 = 0 → pl s0 (t + n_) c0) (i1 : s0 3050 = 0 → tb (s0 3037) (s0 3039) (s0 3017) (c0 44) (x + n_) y) (i2 : x + n_ ≤ s 3037) (i3 : mo = 1 → x + n_ < s 3037) (i4 : mo = 1 ∨ 1 ≤ n_ ∨ s0 3050 ≠ 0) (i5 : s 3049 ≤ s0 3049) (i6 : s 3049 ≤ 32768 → s0 3049 ≤ 32768) (i7 : 0 ≤ s0 3035 ∧ s0 3035 ≤ 22), (if mo = 1 ∧ s0 3050 = 0 then s 3037 - x - n_ + 1 else 0).toNat < m → tt Zi d 172 (11, [some (.inr (.inl 30)), some (.inl x), some (.inl y), some (.inl run), some (.inl n_), some (.inl mo), o_6, o_7, o_8], [], n, D, s0, p, c0) Q := by
  intro m
  induction m with
  | zero => intro n_ mo o_6 o_7 o_8 s0 c0 b_n_ b_mo hS0 hF0 hC0 hG0 i0 i1 i2 i3 i4 i5 i6 i7 hm; exact absurd hm (by omega)
  | succ m ih =>
    intro n_ mo o_6 o_7 o_8 s0 c0 b_n_ b_mo hS0 hF0 hC0 hG0 i0 i1 i2 i3 i4 i5 i6 i7 hm
    have e1 : s0 3039 = s 3039 := hF0 3039 (by decide)
    have b2 : 0 ≤ (s0 3039) ∧ (s0 3039) ≤ 8192 := hS0 3039
    have b3 : 0 ≤ (s 3039) ∧ (s 3039) ≤ 8192 := hS 3039
    have e4 : s0 3017 = s 3017 := hF0 3017 (by decide)
    have b5 : 0 ≤ (s0 3017) ∧ (s0 3017) ≤ 65535 := hS0 3017
    have b6 : 0 ≤ (s 3017) ∧ (s 3017) ≤ 65535 := hS 3017
    have e7 : s0 3037 = s 3037 := hF0 3037 (by decide)
    have b8 : 0 ≤ (s0 3037) ∧ (s0 3037) ≤ 64 := hS0 3037
    have b9 : 0 ≤ (s 3037) ∧ (s 3037) ≤ 64 := hS 3037
    have e10 : s0 3036 = s 3036 := hF0 3036 (by decide)
    have b11 : 0 ≤ (s0 3036) ∧ (s0 3036) ≤ 1 := hS0 3036
    have b12 : 0 ≤ (s 3036) ∧ (s 3036) ≤ 1 := hS 3036
    have hc0_mv : mv s0 := mv_fr hF0 (by decide) hc_mv
    refine tt_k 1 (S' := (13, [some (.inr (.inl 30)), some (.inl x), some (.inl y), some (.inl run), some (.inl n_), some (.inl mo), o_6, o_7, o_8], [.inl mo], n, D, s0, p, c0)) rfl ?_
    refine tz_eq (x := mo) rfl rfl (by omega) (fun h13 => ?_) (fun h13 => ?_)
    · show tt Zi d 172 (232, [some (.inr (.inl 30)), some (.inl x), some (.inl y), some (.inl run), some (.inl n_), some (.inl mo), o_6, o_7, o_8], [], n, D, s0, p, c0) _
      exact hK n_ mo (o_6) (o_7) (o_8) s0 c0 (by omega) (by omega) hS0 hF0 hC0 hG0 i0 i1 i2 i3 i4 i5 i6 i7 (by omega)
    · show tt Zi d 172 (16, [some (.inr (.inl 30)), some (.inl x), some (.inl y), some (.inl run), some (.inl n_), some (.inl mo), o_6, o_7, o_8], [], n, D, s0, p, c0) _
      refine tt_k 2 (S' := (20, [some (.inr (.inl 30)), some (.inl x), some (.inl y), some (.inl run), some (.inl n_), some (.inl mo), o_6, o_7, o_8], [.inl (s0 3050)], n, D, s0, p, c0)) rfl ?_
      have b14 : 0 ≤ (s0 3050) ∧ (s0 3050) ≤ 8 := hS0 3050
      refine tz_ne (x := (s0 3050)) rfl rfl (by omega) (fun h15 => ?_) (fun h15 => ?_)
      · show tt Zi d 172 (232, [some (.inr (.inl 30)), some (.inl x), some (.inl y), some (.inl run), some (.inl n_), some (.inl mo), o_6, o_7, o_8], [], n, D, s0, p, c0) _
        exact hK n_ mo (o_6) (o_7) (o_8) s0 c0 (by omega) (by omega) hS0 hF0 hC0 hG0 i0 i1 i2 i3 i4 i5 i6 i7 (by omega)
      · show tt Zi d 172 (23, [some (.inr (.inl 30)), some (.inl x), some (.inl y), some (.inl run), some (.inl n_), some (.inl mo), o_6, o_7, o_8], [], n, D, s0, p, c0) _
        refine tt_k 1 (S' := (24, [some (.inr (.inl 30)), some (.inl x), some (.inl y), some (.inl run), some (.inl n_), some (.inl mo), o_6, o_7, o_8], [.inr (.inl 30)], n, D, s0, p, c0)) rfl ?_
        refine tt_cl (by omega) rfl (k_ready (Zi := Zi) (D := D) (s := s0) (p := p) (c := c0) (by omega) hS0 hC0 ) ?_
        rintro _ _ ⟨s16, rfl, rfl, hS16, f17, k18, k19, k20, k21⟩
        have hc22 : mv s16 := mv_fr f17 (by decide) hc0_mv
        show tt Zi d 172 (27, [some (.inr (.inl 30)), some (.inl x), some (.inl y), some (.inl run), some (.inl n_), some (.inl mo), o_6, o_7, o_8], [], n, D, s16, p, c0) _
        replace k18 : (s0 3049) ≤ (s16 3049) := k18
        replace k19 : (s16 3050) = 0 → 1 ≤ (s16 3054) := k19
        replace k20 : (s0 3050) ≠ 0 → (s16 3050) ≠ 0 := k20
        replace k21 : (s0 3049) ≤ 32768 → (s16 3049) ≤ 32768 := k21
        have b23 : 0 ≤ (s0 3049) ∧ (s0 3049) ≤ 32769 := hS0 3049
        have b24 : 0 ≤ (s16 3049) ∧ (s16 3049) ≤ 32769 := hS16 3049
        have b25 : 0 ≤ (s16 3050) ∧ (s16 3050) ≤ 8 := hS16 3050
        have b26 : 0 ≤ (s16 3054) ∧ (s16 3054) ≤ 8 := hS16 3054
        have e27 : s16 3039 = (s0 3039) := (f17 3039 (by decide))
        have b28 : 0 ≤ (s16 3039) ∧ (s16 3039) ≤ 8192 := hS16 3039
        have e29 : s16 3017 = (s0 3017) := (f17 3017 (by decide))
        have b30 : 0 ≤ (s16 3017) ∧ (s16 3017) ≤ 65535 := hS16 3017
        have e31 : s16 3037 = (s0 3037) := (f17 3037 (by decide))
        have b32 : 0 ≤ (s16 3037) ∧ (s16 3037) ≤ 64 := hS16 3037
        have e33 : s16 3035 = (s0 3035) := (f17 3035 (by decide))
        have b34 : 0 ≤ (s16 3035) ∧ (s16 3035) ≤ 31 := hS16 3035
        have b35 : 0 ≤ (s0 3035) ∧ (s0 3035) ≤ 31 := hS0 3035
        have e36 : s16 3036 = (s0 3036) := (f17 3036 (by decide))
        have b37 : 0 ≤ (s16 3036) ∧ (s16 3036) ≤ 1 := hS16 3036
        refine tt_k 5 (S' := (35, [some (.inr (.inl 30)), some (.inl x), some (.inl y), some (.inl run), some (.inl n_), some (.inl mo), some (.inl (s16 3053)), o_7, o_8], [.inr (.inl 30), .inl 1], n, D, s16, p, c0)) rfl ?_
        refine tt_cl (by omega) rfl (k_piecesJ (Zi := Zi) (D := D) (s := s16) (p := p) (c := c0) (by omega) hS16 hC0 (show 0 ≤ (s16 3035) ∧ (s16 3035) ≤ 22 by omega)) ?_
        rintro _ _ ⟨r38, rfl, rfl, b39, k40⟩
        show tt Zi d 172 (38, [some (.inr (.inl 30)), some (.inl x), some (.inl y), some (.inl run), some (.inl n_), some (.inl mo), some (.inl (s16 3053)), o_7, o_8], [.inl r38, .inl 1], n, D, s16, p, c0) _
        replace k40 : r38 = jj ((s16 3035)) := k40
        have h41 : r38 = 7 → mi_shl 1 r38 = 128 := by intro hq; rw [hq]; exact shl7
        have h42 : r38 ≤ 6 → (s16 3035) ≤ 21 := fun hq => jj_le6 (by omega) (by omega)
        refine tt_k 3 (S' := (42, [some (.inr (.inl 30)), some (.inl x), some (.inl y), some (.inl run), some (.inl n_), some (.inl mo), some (.inl (s16 3053)), some (.inl (mi_shl 1 r38)), o_8], [.inr (.inl 30)], n, D, s16, p, c0)) rfl ?_
        refine tt_cl (by omega) rfl (k_bit (Zi := Zi) (D := D) (s := s16) (p := p) (c := c0) (by omega) hS16 hC0 ) ?_
        rintro _ _ ⟨s43, r44, rfl, rfl, hS43, f45, b46, k47, k48, k49⟩
        have hc50 : mv s43 := mv_fr f45 (by decide) hc22
        show tt Zi d 172 (45, [some (.inr (.inl 30)), some (.inl x), some (.inl y), some (.inl run), some (.inl n_), some (.inl mo), some (.inl (s16 3053)), some (.inl (mi_shl 1 r38)), o_8], [.inl r44], n, D, s43, p, c0) _
        replace k47 : (s16 3049) ≤ (s43 3049) := k47
        replace k48 : (s16 3050) ≠ 0 → (s43 3050) ≠ 0 := k48
        replace k49 : (s16 3049) ≤ 32768 → (s43 3049) ≤ 32768 := k49
        have b51 : 0 ≤ (s43 3049) ∧ (s43 3049) ≤ 32769 := hS43 3049
        have b52 : 0 ≤ (s43 3050) ∧ (s43 3050) ≤ 8 := hS43 3050
        have e53 : s43 3039 = (s16 3039) := (f45 3039 (by decide))
        have b54 : 0 ≤ (s43 3039) ∧ (s43 3039) ≤ 8192 := hS43 3039
        have e55 : s43 3017 = (s16 3017) := (f45 3017 (by decide))
        have b56 : 0 ≤ (s43 3017) ∧ (s43 3017) ≤ 65535 := hS43 3017
        have e57 : s43 3037 = (s16 3037) := (f45 3037 (by decide))
        have b58 : 0 ≤ (s43 3037) ∧ (s43 3037) ≤ 64 := hS43 3037
        have e59 : s43 3035 = (s16 3035) := (f45 3035 (by decide))
        have b60 : 0 ≤ (s43 3035) ∧ (s43 3035) ≤ 31 := hS43 3035
        have e61 : s43 3036 = (s16 3036) := (f45 3036 (by decide))
        have b62 : 0 ≤ (s43 3036) ∧ (s43 3036) ≤ 1 := hS43 3036
        refine tt_k 1 (S' := (46, [some (.inr (.inl 30)), some (.inl x), some (.inl y), some (.inl run), some (.inl n_), some (.inl mo), some (.inl (s16 3053)), some (.inl (mi_shl 1 r38)), o_8], [.inl 1, .inl r44], n, D, s43, p, c0)) rfl ?_
        refine tb_ne (x := r44) (y := 1) rfl rfl (by omega) (fun h63 => ?_) (fun h63 => ?_)
        · show tt Zi d 172 (141, [some (.inr (.inl 30)), some (.inl x), some (.inl y), some (.inl run), some (.inl n_), some (.inl mo), some (.inl (s16 3053)), some (.inl (mi_shl 1 r38)), o_8], [], n, D, s43, p, c0) _
          refine tt_k 2 (S' := (145, [some (.inr (.inl 30)), some (.inl x), some (.inl y), some (.inl run), some (.inl n_), some (.inl mo), some (.inl (s16 3053)), some (.inl (mi_shl 1 r38)), o_8], [.inl (s43 3050)], n, D, s43, p, c0)) rfl ?_
          refine tz_ne (x := (s43 3050)) rfl rfl (by omega) (fun h64 => ?_) (fun h64 => ?_)
          · show tt Zi d 172 (229, [some (.inr (.inl 30)), some (.inl x), some (.inl y), some (.inl run), some (.inl n_), some (.inl mo), some (.inl (s16 3053)), some (.inl (mi_shl 1 r38)), o_8], [], n, D, s43, p, c0) _
            refine tt_k 1 (S' := (11, [some (.inr (.inl 30)), some (.inl x), some (.inl y), some (.inl run), some (.inl n_), some (.inl mo), some (.inl (s16 3053)), some (.inl (mi_shl 1 r38)), o_8], [], n, D, s43, p, c0)) rfl ?_
            exact ih n_ mo (some (.inl (s16 3053))) (some (.inl (mi_shl 1 r38))) (o_8) s43 c0 (by omega) (by omega) hS43 (fr_tr (fr_tr hF0 f17 (by decide)) f45 (by decide)) hC0 hG0 (fun hz => absurd hz (by omega)) (fun hz => absurd hz (by omega)) (show x + n_ ≤ s 3037 by omega) (show mo = 1 → x + n_ < s 3037 by omega) (show mo = 1 ∨ 1 ≤ n_ ∨ (s43 3050) ≠ 0 by omega) (show s 3049 ≤ (s43 3049) by omega) (show s 3049 ≤ 32768 → (s43 3049) ≤ 32768 by omega) (show 0 ≤ (s43 3035) ∧ (s43 3035) ≤ 22 by omega) (show (if mo = 1 ∧ (s43 3050) = 0 then s 3037 - x - n_ + 1 else 0).toNat < m by omega)
          · show tt Zi d 172 (148, [some (.inr (.inl 30)), some (.inl x), some (.inl y), some (.inl run), some (.inl n_), some (.inl mo), some (.inl (s16 3053)), some (.inl (mi_shl 1 r38)), o_8], [], n, D, s43, p, c0) _
            refine tt_k 2 (S' := (150, [some (.inr (.inl 30)), some (.inl x), some (.inl y), some (.inl run), some (.inl n_), some (.inl mo), some (.inl (s16 3053)), some (.inl (mi_shl 1 r38)), o_8], [.inr (.inl 30), .inr (.inl 30)], n, D, s43, p, c0)) rfl ?_
            refine tt_cl (by omega) rfl (k_piecesJ (Zi := Zi) (D := D) (s := s43) (p := p) (c := c0) (by omega) hS43 hC0 (show 0 ≤ (s43 3035) ∧ (s43 3035) ≤ 22 by omega)) ?_
            rintro _ _ ⟨r65, rfl, rfl, b66, k67⟩
            show tt Zi d 172 (153, [some (.inr (.inl 30)), some (.inl x), some (.inl y), some (.inl run), some (.inl n_), some (.inl mo), some (.inl (s16 3053)), some (.inl (mi_shl 1 r38)), o_8], [.inl r65, .inr (.inl 30)], n, D, s43, p, c0) _
            replace k67 : r65 = jj ((s43 3035)) := k67
            refine tt_cl (by omega) rfl (k_bits (Zi := Zi) (D := D) (s := s43) (p := p) (c := c0) (by omega) hS43 hC0 r65 (by omega)) ?_
            rintro _ _ ⟨s68, r69, rfl, rfl, hS68, f70, b71, k72, k73, k74, k75⟩
            have hc76 : mv s68 := mv_fr f70 (by decide) hc50
            show tt Zi d 172 (156, [some (.inr (.inl 30)), some (.inl x), some (.inl y), some (.inl run), some (.inl n_), some (.inl mo), some (.inl (s16 3053)), some (.inl (mi_shl 1 r38)), o_8], [.inl r69], n, D, s68, p, c0) _
            replace k72 : (s43 3049) ≤ (s68 3049) := k72
            replace k73 : r69 < 2 ^ r65.toNat := k73
            replace k74 : (s43 3050) ≠ 0 → (s68 3050) ≠ 0 := k74
            replace k75 : (s43 3049) ≤ 32768 → (s68 3049) ≤ 32768 := k75
            have b77 : 0 ≤ (s68 3049) ∧ (s68 3049) ≤ 32769 := hS68 3049
            have b78 : 0 ≤ (s68 3050) ∧ (s68 3050) ≤ 8 := hS68 3050
            have e79 : s68 3039 = (s43 3039) := (f70 3039 (by decide))
            have b80 : 0 ≤ (s68 3039) ∧ (s68 3039) ≤ 8192 := hS68 3039
            have e81 : s68 3017 = (s43 3017) := (f70 3017 (by decide))
            have b82 : 0 ≤ (s68 3017) ∧ (s68 3017) ≤ 65535 := hS68 3017
            have e83 : s68 3037 = (s43 3037) := (f70 3037 (by decide))
            have b84 : 0 ≤ (s68 3037) ∧ (s68 3037) ≤ 64 := hS68 3037
            have e85 : s68 3035 = (s43 3035) := (f70 3035 (by decide))
            have b86 : 0 ≤ (s68 3035) ∧ (s68 3035) ≤ 31 := hS68 3035
            have e87 : s68 3036 = (s43 3036) := (f70 3036 (by decide))
            have b88 : 0 ≤ (s68 3036) ∧ (s68 3036) ≤ 1 := hS68 3036
            refine tt_k 3 (S' := (162, [some (.inr (.inl 30)), some (.inl x), some (.inl y), some (.inl run), some (.inl n_), some (.inl mo), some (.inl (s16 3053)), some (.inl (mi_shl 1 r38)), some (.inl r69)], [.inl (s68 3050)], n, D, s68, p, c0)) rfl ?_
            refine tz_ne (x := (s68 3050)) rfl rfl (by omega) (fun h89 => ?_) (fun h89 => ?_)
            · show tt Zi d 172 (187, [some (.inr (.inl 30)), some (.inl x), some (.inl y), some (.inl run), some (.inl n_), some (.inl mo), some (.inl (s16 3053)), some (.inl (mi_shl 1 r38)), some (.inl r69)], [], n, D, s68, p, c0) _
              refine tt_k 2 (S' := (191, [some (.inr (.inl 30)), some (.inl x), some (.inl y), some (.inl run), some (.inl n_), some (.inl mo), some (.inl (s16 3053)), some (.inl (mi_shl 1 r38)), some (.inl r69)], [.inl (s68 3050)], n, D, s68, p, c0)) rfl ?_
              refine tz_ne (x := (s68 3050)) rfl rfl (by omega) (fun h90 => ?_) (fun h90 => ?_)
              · show tt Zi d 172 (226, [some (.inr (.inl 30)), some (.inl x), some (.inl y), some (.inl run), some (.inl n_), some (.inl mo), some (.inl (s16 3053)), some (.inl (mi_shl 1 r38)), some (.inl r69)], [], n, D, s68, p, c0) _
                refine tt_k 3 (S' := (11, [some (.inr (.inl 30)), some (.inl x), some (.inl y), some (.inl run), some (.inl n_), some (.inl 0), some (.inl (s16 3053)), some (.inl (mi_shl 1 r38)), some (.inl r69)], [], n, D, s68, p, c0)) rfl ?_
                exact ih n_ 0 (some (.inl (s16 3053))) (some (.inl (mi_shl 1 r38))) (some (.inl r69)) s68 c0 (by omega) (by omega) hS68 (fr_tr (fr_tr (fr_tr hF0 f17 (by decide)) f45 (by decide)) f70 (by decide)) hC0 hG0 (fun hz => absurd hz (by omega)) (fun hz => absurd hz (by omega)) (show x + n_ ≤ s 3037 by omega) (show 0 = 1 → x + n_ < s 3037 by omega) (show 0 = 1 ∨ 1 ≤ n_ ∨ (s68 3050) ≠ 0 by omega) (show s 3049 ≤ (s68 3049) by omega) (show s 3049 ≤ 32768 → (s68 3049) ≤ 32768 by omega) (show 0 ≤ (s68 3035) ∧ (s68 3035) ≤ 22 by omega) (show (if 0 = 1 ∧ (s68 3050) = 0 then s 3037 - x - n_ + 1 else 0).toNat < m by omega)
              · exfalso; omega
            · show tt Zi d 172 (165, [some (.inr (.inl 30)), some (.inl x), some (.inl y), some (.inl run), some (.inl n_), some (.inl mo), some (.inl (s16 3053)), some (.inl (mi_shl 1 r38)), some (.inl r69)], [], n, D, s68, p, c0) _
              refine tt_k 7 (S' := (176, [some (.inr (.inl 30)), some (.inl x), some (.inl y), some (.inl run), some (.inl n_), some (.inl mo), some (.inl (s16 3053)), some (.inl (mi_shl 1 r38)), some (.inl r69)], [.inl ((((s68 3037) - x) - n_)), .inl r69], n, D, s68, p, c0)) rfl ?_
              refine tb_lt (x := r69) (y := (((s68 3037) - x) - n_)) rfl rfl (by omega) (fun h91 => ?_) (fun h91 => ?_)
              · show tt Zi d 172 (187, [some (.inr (.inl 30)), some (.inl x), some (.inl y), some (.inl run), some (.inl n_), some (.inl mo), some (.inl (s16 3053)), some (.inl (mi_shl 1 r38)), some (.inl r69)], [], n, D, s68, p, c0) _
                refine tt_k 2 (S' := (191, [some (.inr (.inl 30)), some (.inl x), some (.inl y), some (.inl run), some (.inl n_), some (.inl mo), some (.inl (s16 3053)), some (.inl (mi_shl 1 r38)), some (.inl r69)], [.inl (s68 3050)], n, D, s68, p, c0)) rfl ?_
                refine tz_ne (x := (s68 3050)) rfl rfl (by omega) (fun h92 => ?_) (fun h92 => ?_)
                · exfalso; omega
                · show tt Zi d 172 (194, [some (.inr (.inl 30)), some (.inl x), some (.inl y), some (.inl run), some (.inl n_), some (.inl mo), some (.inl (s16 3053)), some (.inl (mi_shl 1 r38)), some (.inl r69)], [], n, D, s68, p, c0) _
                  refine tt_k 7 (S' := (203, [some (.inr (.inl 30)), some (.inl x), some (.inl y), some (.inl run), some (.inl n_), some (.inl mo), some (.inl (s16 3053)), some (.inl (mi_shl 1 r38)), some (.inl r69)], [.inl run, .inl r69, .inl y, .inl (x + n_), .inr (.inl 30)], n, D, s68, p, c0)) rfl ?_
                  refine tt_cl (by omega) rfl (k_fill (Zi := Zi) (D := D) (s := s68) (p := p) (c := c0) (by omega) hS68 hC0 (x + n_) y r69 run (by omega) (by omega) (by omega) (by omega) (show (x + n_) + r69 ≤ 64 by omega)) ?_
                  rintro _ _ ⟨c93, rfl, rfl, hC93, g94, k95, k96⟩
                  show tt Zi d 172 (206, [some (.inr (.inl 30)), some (.inl x), some (.inl y), some (.inl run), some (.inl n_), some (.inl mo), some (.inl (s16 3053)), some (.inl (mi_shl 1 r38)), some (.inl r69)], [], n, D, s68, p, c93) _
                  replace k95 : ∀ i : Nat, (i : Int) < (s68 3039) + 64 * y + (x + n_) ∨ (s68 3039) + 64 * y + (x + n_) + r69 ≤ i → (c93 44) i = (c0 44) i := k95
                  replace k96 : ∀ i : Nat, (s68 3039) + 64 * y + (x + n_) ≤ i → (i : Int) < (s68 3039) + 64 * y + (x + n_) + r69 → (c93 44) i = run := k96
                  have aW : s68 3037 = s0 3037 := ((f70 3037 (by decide)).trans ((f45 3037 (by decide)).trans (f17 3037 (by decide))))
                  have aB : s68 3039 = s0 3039 := ((f70 3039 (by decide)).trans ((f45 3039 (by decide)).trans (f17 3039 (by decide))))
                  have aM : s68 3017 = s0 3017 := ((f70 3017 (by decide)).trans ((f45 3017 (by decide)).trans (f17 3017 (by decide))))
                  have hTf : tb (s68 3037) (s68 3039) (s68 3017) (c93 44) ((x + n_) + r69) y := tb_fill (by rw [aW, aB, aM]; exact i1 (by omega)) (by omega) (by omega) (by omega) (by omega) (by omega) (by omega) (by omega) k95 k96
                  clear k95 k96
                  refine tt_k 10 (S' := (220, [some (.inr (.inl 30)), some (.inl x), some (.inl y), some (.inl run), some (.inl (n_ + r69)), some (.inl mo), some (.inl (s16 3053)), some (.inl (mi_shl 1 r38)), some (.inl r69)], [.inl run, .inl y, .inl (x + (n_ + r69)), .inr (.inl 30)], n, D, s68, p, c93)) rfl ?_
                  have aQ : s68 3025 = s0 3025 := ((f70 3025 (by decide)).trans ((f45 3025 (by decide)).trans (f17 3025 (by decide))))
                  have ro36 : c93 36 = c0 36 := g94 36 (by decide)
                  have ro37 : c93 37 = c0 37 := g94 37 (by decide)
                  have ro38 : c93 38 = c0 38 := g94 38 (by decide)
                  have ro39 : c93 39 = c0 39 := g94 39 (by decide)
                  refine tt_cl (by omega) rfl (k_stopR (Zi := Zi) (D := D) (s := s68) (p := p) (c := c93) (by omega) hS68 hC93 (t + (n_ + r69)) (x + (n_ + r69)) y run (by omega) (by omega) (by omega) hc76 (show (s68 3036) = 0 ∧ (s68 3050) = 0 ∧ (x + (n_ + r69)) < (s68 3037) by omega) (show run ≤ (s68 3017) by omega) (pl_mono (pl_eq aQ ro36 ro37 ro38 ro39 (i0 (by omega))) (by omega)) (by rw [show x + (n_ + r69) = x + n_ + r69 by omega]; exact hTf) (show 0 ≤ (t + (n_ + r69)) ∧ (t + (n_ + r69)) ≤ 4095 by omega) (show 0 ≤ (s68 3035) ∧ (s68 3035) ≤ 22 by omega)) ?_
                  rintro _ _ ⟨s98, c99, rfl, rfl, hS98, hC99, f100, g101, k102, k103, k104, k105, k106⟩
                  have hc107 : mv s98 := mv_fr f100 (by decide) hc76
                  show tt Zi d 172 (223, [some (.inr (.inl 30)), some (.inl x), some (.inl y), some (.inl run), some (.inl (n_ + r69)), some (.inl mo), some (.inl (s16 3053)), some (.inl (mi_shl 1 r38)), some (.inl r69)], [], n, D, s98, p, c99) _
                  replace k102 : (s98 3050) = 0 → pl s98 ((t + (n_ + r69)) + 1) c99 := k102
                  replace k103 : (s98 3050) = 0 → tb ((s98 3037)) ((s98 3039)) ((s98 3017)) ((c99 44)) ((x + (n_ + r69)) + 1) y := k103
                  replace k104 : (s68 3049) ≤ (s98 3049) := k104
                  replace k105 : (s68 3049) ≤ 32768 → (s98 3049) ≤ 32768 := k105
                  replace k106 : 0 ≤ (s98 3035) ∧ (s98 3035) ≤ 22 := k106
                  have b108 : 0 ≤ (s98 3050) ∧ (s98 3050) ≤ 8 := hS98 3050
                  have b109 : 0 ≤ (s98 3037) ∧ (s98 3037) ≤ 64 := hS98 3037
                  have b110 : 0 ≤ (s98 3039) ∧ (s98 3039) ≤ 8192 := hS98 3039
                  have b111 : 0 ≤ (s98 3017) ∧ (s98 3017) ≤ 65535 := hS98 3017
                  have b112 : 0 ≤ (s98 3049) ∧ (s98 3049) ≤ 32769 := hS98 3049
                  have b113 : 0 ≤ (s98 3035) ∧ (s98 3035) ≤ 31 := hS98 3035
                  have e114 : s98 3039 = (s68 3039) := (f100 3039 (by decide))
                  have e115 : s98 3017 = (s68 3017) := (f100 3017 (by decide))
                  have e116 : s98 3037 = (s68 3037) := (f100 3037 (by decide))
                  have e117 : s98 3036 = (s68 3036) := (f100 3036 (by decide))
                  have b118 : 0 ≤ (s98 3036) ∧ (s98 3036) ≤ 1 := hS98 3036
                  refine tt_k 4 (S' := (11, [some (.inr (.inl 30)), some (.inl x), some (.inl y), some (.inl run), some (.inl ((n_ + r69) + 1)), some (.inl 0), some (.inl (s16 3053)), some (.inl (mi_shl 1 r38)), some (.inl r69)], [], n, D, s98, p, c99)) rfl ?_
                  exact ih ((n_ + r69) + 1) 0 (some (.inl (s16 3053))) (some (.inl (mi_shl 1 r38))) (some (.inl r69)) s98 c99 (by omega) (by omega) hS98 (fr_tr (fr_tr (fr_tr (fr_tr hF0 f17 (by decide)) f45 (by decide)) f70 (by decide)) f100 (by decide)) hC99 (frc_tr (frc_tr hG0 g94 (by decide)) g101 (by decide)) (fun hz => pl_mono (k102 hz) (by omega)) (by rw [show x + ((n_ + r69) + 1) = (x + (n_ + r69)) + 1 by omega]; exact k103) (show x + ((n_ + r69) + 1) ≤ s 3037 by omega) (show 0 = 1 → x + ((n_ + r69) + 1) < s 3037 by omega) (show 0 = 1 ∨ 1 ≤ ((n_ + r69) + 1) ∨ (s98 3050) ≠ 0 by omega) (show s 3049 ≤ (s98 3049) by omega) (show s 3049 ≤ 32768 → (s98 3049) ≤ 32768 by omega) (show 0 ≤ (s98 3035) ∧ (s98 3035) ≤ 22 by omega) (show (if 0 = 1 ∧ (s98 3050) = 0 then s 3037 - x - ((n_ + r69) + 1) + 1 else 0).toNat < m by omega)
              · show tt Zi d 172 (179, [some (.inr (.inl 30)), some (.inl x), some (.inl y), some (.inl run), some (.inl n_), some (.inl mo), some (.inl (s16 3053)), some (.inl (mi_shl 1 r38)), some (.inl r69)], [], n, D, s68, p, c0) _
                refine tt_k 3 (S' := (184, [some (.inr (.inl 30)), some (.inl x), some (.inl y), some (.inl run), some (.inl n_), some (.inl mo), some (.inl (s16 3053)), some (.inl (mi_shl 1 r38)), some (.inl r69)], [.inl (s16 3053), .inl 7, .inr (.inl 30)], n, D, s68, p, c0)) rfl ?_
                have b119 : 0 ≤ (s16 3053) ∧ (s16 3053) ≤ 32768 := hS16 3053
                refine tt_cl (by omega) rfl (k_fail (Zi := Zi) (D := D) (s := s68) (p := p) (c := c0) (by omega) hS68 hC0 7 (s16 3053) (by omega) (by omega)) ?_
                rintro _ _ ⟨s120, rfl, rfl, hS120, f121, k122, k123⟩
                have hc124 : mv s120 := mv_fr f121 (by decide) hc76
                show tt Zi d 172 (187, [some (.inr (.inl 30)), some (.inl x), some (.inl y), some (.inl run), some (.inl n_), some (.inl mo), some (.inl (s16 3053)), some (.inl (mi_shl 1 r38)), some (.inl r69)], [], n, D, s120, p, c0) _
                replace k122 : ((s68 3050) = 0 → (s120 3050) = 7 ∧ (s120 3051) = (s16 3053)) := k122
                replace k123 : ((s68 3050) ≠ 0 → (s120 3050) = (s68 3050) ∧ (s120 3051) = (s68 3051)) := k123
                have b125 : 0 ≤ (s120 3050) ∧ (s120 3050) ≤ 8 := hS120 3050
                have b126 : -1 ≤ (s120 3051) ∧ (s120 3051) ≤ 32769 := hS120 3051
                have b127 : -1 ≤ (s68 3051) ∧ (s68 3051) ≤ 32769 := hS68 3051
                have e128 : s120 3039 = (s68 3039) := (f121 3039 (by decide))
                have b129 : 0 ≤ (s120 3039) ∧ (s120 3039) ≤ 8192 := hS120 3039
                have e130 : s120 3017 = (s68 3017) := (f121 3017 (by decide))
                have b131 : 0 ≤ (s120 3017) ∧ (s120 3017) ≤ 65535 := hS120 3017
                have e132 : s120 3037 = (s68 3037) := (f121 3037 (by decide))
                have b133 : 0 ≤ (s120 3037) ∧ (s120 3037) ≤ 64 := hS120 3037
                have e134 : s120 3035 = (s68 3035) := (f121 3035 (by decide))
                have b135 : 0 ≤ (s120 3035) ∧ (s120 3035) ≤ 31 := hS120 3035
                have e136 : s120 3049 = (s68 3049) := (f121 3049 (by decide))
                have b137 : 0 ≤ (s120 3049) ∧ (s120 3049) ≤ 32769 := hS120 3049
                have e138 : s120 3036 = (s68 3036) := (f121 3036 (by decide))
                have b139 : 0 ≤ (s120 3036) ∧ (s120 3036) ≤ 1 := hS120 3036
                refine tt_k 2 (S' := (191, [some (.inr (.inl 30)), some (.inl x), some (.inl y), some (.inl run), some (.inl n_), some (.inl mo), some (.inl (s16 3053)), some (.inl (mi_shl 1 r38)), some (.inl r69)], [.inl (s120 3050)], n, D, s120, p, c0)) rfl ?_
                refine tz_ne (x := (s120 3050)) rfl rfl (by omega) (fun h140 => ?_) (fun h140 => ?_)
                · show tt Zi d 172 (226, [some (.inr (.inl 30)), some (.inl x), some (.inl y), some (.inl run), some (.inl n_), some (.inl mo), some (.inl (s16 3053)), some (.inl (mi_shl 1 r38)), some (.inl r69)], [], n, D, s120, p, c0) _
                  refine tt_k 3 (S' := (11, [some (.inr (.inl 30)), some (.inl x), some (.inl y), some (.inl run), some (.inl n_), some (.inl 0), some (.inl (s16 3053)), some (.inl (mi_shl 1 r38)), some (.inl r69)], [], n, D, s120, p, c0)) rfl ?_
                  exact ih n_ 0 (some (.inl (s16 3053))) (some (.inl (mi_shl 1 r38))) (some (.inl r69)) s120 c0 (by omega) (by omega) hS120 (fr_tr (fr_tr (fr_tr (fr_tr hF0 f17 (by decide)) f45 (by decide)) f70 (by decide)) f121 (by decide)) hC0 hG0 (fun hz => absurd hz (by omega)) (fun hz => absurd hz (by omega)) (show x + n_ ≤ s 3037 by omega) (show 0 = 1 → x + n_ < s 3037 by omega) (show 0 = 1 ∨ 1 ≤ n_ ∨ (s120 3050) ≠ 0 by omega) (show s 3049 ≤ (s120 3049) by omega) (show s 3049 ≤ 32768 → (s120 3049) ≤ 32768 by omega) (show 0 ≤ (s120 3035) ∧ (s120 3035) ≤ 22 by omega) (show (if 0 = 1 ∧ (s120 3050) = 0 then s 3037 - x - n_ + 1 else 0).toNat < m by omega)
                · show tt Zi d 172 (194, [some (.inr (.inl 30)), some (.inl x), some (.inl y), some (.inl run), some (.inl n_), some (.inl mo), some (.inl (s16 3053)), some (.inl (mi_shl 1 r38)), some (.inl r69)], [], n, D, s120, p, c0) _
                  refine tt_k 7 (S' := (203, [some (.inr (.inl 30)), some (.inl x), some (.inl y), some (.inl run), some (.inl n_), some (.inl mo), some (.inl (s16 3053)), some (.inl (mi_shl 1 r38)), some (.inl r69)], [.inl run, .inl r69, .inl y, .inl (x + n_), .inr (.inl 30)], n, D, s120, p, c0)) rfl ?_
                  refine tt_cl (by omega) rfl (k_fill (Zi := Zi) (D := D) (s := s120) (p := p) (c := c0) (by omega) hS120 hC0 (x + n_) y r69 run (by omega) (by omega) (by omega) (by omega) (show (x + n_) + r69 ≤ 64 by omega)) ?_
                  rintro _ _ ⟨c141, rfl, rfl, hC141, g142, k143, k144⟩
                  show tt Zi d 172 (206, [some (.inr (.inl 30)), some (.inl x), some (.inl y), some (.inl run), some (.inl n_), some (.inl mo), some (.inl (s16 3053)), some (.inl (mi_shl 1 r38)), some (.inl r69)], [], n, D, s120, p, c141) _
                  replace k143 : ∀ i : Nat, (i : Int) < (s120 3039) + 64 * y + (x + n_) ∨ (s120 3039) + 64 * y + (x + n_) + r69 ≤ i → (c141 44) i = (c0 44) i := k143
                  replace k144 : ∀ i : Nat, (s120 3039) + 64 * y + (x + n_) ≤ i → (i : Int) < (s120 3039) + 64 * y + (x + n_) + r69 → (c141 44) i = run := k144
                  have aW : s120 3037 = s0 3037 := ((f121 3037 (by decide)).trans ((f70 3037 (by decide)).trans ((f45 3037 (by decide)).trans (f17 3037 (by decide)))))
                  have aB : s120 3039 = s0 3039 := ((f121 3039 (by decide)).trans ((f70 3039 (by decide)).trans ((f45 3039 (by decide)).trans (f17 3039 (by decide)))))
                  have aM : s120 3017 = s0 3017 := ((f121 3017 (by decide)).trans ((f70 3017 (by decide)).trans ((f45 3017 (by decide)).trans (f17 3017 (by decide)))))
                  have hTf : tb (s120 3037) (s120 3039) (s120 3017) (c141 44) ((x + n_) + r69) y := tb_fill (by rw [aW, aB, aM]; exact i1 (by omega)) (by omega) (by omega) (by omega) (by omega) (by omega) (by omega) (by omega) k143 k144
                  clear k143 k144
                  refine tt_k 10 (S' := (220, [some (.inr (.inl 30)), some (.inl x), some (.inl y), some (.inl run), some (.inl (n_ + r69)), some (.inl mo), some (.inl (s16 3053)), some (.inl (mi_shl 1 r38)), some (.inl r69)], [.inl run, .inl y, .inl (x + (n_ + r69)), .inr (.inl 30)], n, D, s120, p, c141)) rfl ?_
                  have aQ : s120 3025 = s0 3025 := ((f121 3025 (by decide)).trans ((f70 3025 (by decide)).trans ((f45 3025 (by decide)).trans (f17 3025 (by decide)))))
                  have ro36 : c141 36 = c0 36 := g142 36 (by decide)
                  have ro37 : c141 37 = c0 37 := g142 37 (by decide)
                  have ro38 : c141 38 = c0 38 := g142 38 (by decide)
                  have ro39 : c141 39 = c0 39 := g142 39 (by decide)
                  refine tt_cl (by omega) rfl (k_stopR (Zi := Zi) (D := D) (s := s120) (p := p) (c := c141) (by omega) hS120 hC141 (t + (n_ + r69)) (x + (n_ + r69)) y run (by omega) (by omega) (by omega) hc124 (show (s120 3036) = 0 ∧ (s120 3050) = 0 ∧ (x + (n_ + r69)) < (s120 3037) by omega) (show run ≤ (s120 3017) by omega) (pl_mono (pl_eq aQ ro36 ro37 ro38 ro39 (i0 (by omega))) (by omega)) (by rw [show x + (n_ + r69) = x + n_ + r69 by omega]; exact hTf) (show 0 ≤ (t + (n_ + r69)) ∧ (t + (n_ + r69)) ≤ 4095 by omega) (show 0 ≤ (s120 3035) ∧ (s120 3035) ≤ 22 by omega)) ?_
                  rintro _ _ ⟨s146, c147, rfl, rfl, hS146, hC147, f148, g149, k150, k151, k152, k153, k154⟩
                  have hc155 : mv s146 := mv_fr f148 (by decide) hc124
                  show tt Zi d 172 (223, [some (.inr (.inl 30)), some (.inl x), some (.inl y), some (.inl run), some (.inl (n_ + r69)), some (.inl mo), some (.inl (s16 3053)), some (.inl (mi_shl 1 r38)), some (.inl r69)], [], n, D, s146, p, c147) _
                  replace k150 : (s146 3050) = 0 → pl s146 ((t + (n_ + r69)) + 1) c147 := k150
                  replace k151 : (s146 3050) = 0 → tb ((s146 3037)) ((s146 3039)) ((s146 3017)) ((c147 44)) ((x + (n_ + r69)) + 1) y := k151
                  replace k152 : (s120 3049) ≤ (s146 3049) := k152
                  replace k153 : (s120 3049) ≤ 32768 → (s146 3049) ≤ 32768 := k153
                  replace k154 : 0 ≤ (s146 3035) ∧ (s146 3035) ≤ 22 := k154
                  have b156 : 0 ≤ (s146 3050) ∧ (s146 3050) ≤ 8 := hS146 3050
                  have b157 : 0 ≤ (s146 3037) ∧ (s146 3037) ≤ 64 := hS146 3037
                  have b158 : 0 ≤ (s146 3039) ∧ (s146 3039) ≤ 8192 := hS146 3039
                  have b159 : 0 ≤ (s146 3017) ∧ (s146 3017) ≤ 65535 := hS146 3017
                  have b160 : 0 ≤ (s146 3049) ∧ (s146 3049) ≤ 32769 := hS146 3049
                  have b161 : 0 ≤ (s146 3035) ∧ (s146 3035) ≤ 31 := hS146 3035
                  have e162 : s146 3039 = (s120 3039) := (f148 3039 (by decide))
                  have e163 : s146 3017 = (s120 3017) := (f148 3017 (by decide))
                  have e164 : s146 3037 = (s120 3037) := (f148 3037 (by decide))
                  have e165 : s146 3036 = (s120 3036) := (f148 3036 (by decide))
                  have b166 : 0 ≤ (s146 3036) ∧ (s146 3036) ≤ 1 := hS146 3036
                  refine tt_k 4 (S' := (11, [some (.inr (.inl 30)), some (.inl x), some (.inl y), some (.inl run), some (.inl ((n_ + r69) + 1)), some (.inl 0), some (.inl (s16 3053)), some (.inl (mi_shl 1 r38)), some (.inl r69)], [], n, D, s146, p, c147)) rfl ?_
                  exact ih ((n_ + r69) + 1) 0 (some (.inl (s16 3053))) (some (.inl (mi_shl 1 r38))) (some (.inl r69)) s146 c147 (by omega) (by omega) hS146 (fr_tr (fr_tr (fr_tr (fr_tr (fr_tr hF0 f17 (by decide)) f45 (by decide)) f70 (by decide)) f121 (by decide)) f148 (by decide)) hC147 (frc_tr (frc_tr hG0 g142 (by decide)) g149 (by decide)) (fun hz => pl_mono (k150 hz) (by omega)) (by rw [show x + ((n_ + r69) + 1) = (x + (n_ + r69)) + 1 by omega]; exact k151) (show x + ((n_ + r69) + 1) ≤ s 3037 by omega) (show 0 = 1 → x + ((n_ + r69) + 1) < s 3037 by omega) (show 0 = 1 ∨ 1 ≤ ((n_ + r69) + 1) ∨ (s146 3050) ≠ 0 by omega) (show s 3049 ≤ (s146 3049) by omega) (show s 3049 ≤ 32768 → (s146 3049) ≤ 32768 by omega) (show 0 ≤ (s146 3035) ∧ (s146 3035) ≤ 22 by omega) (show (if 0 = 1 ∧ (s146 3050) = 0 then s 3037 - x - ((n_ + r69) + 1) + 1 else 0).toNat < m by omega)
        · show tt Zi d 172 (49, [some (.inr (.inl 30)), some (.inl x), some (.inl y), some (.inl run), some (.inl n_), some (.inl mo), some (.inl (s16 3053)), some (.inl (mi_shl 1 r38)), o_8], [], n, D, s43, p, c0) _
          refine tt_k 2 (S' := (53, [some (.inr (.inl 30)), some (.inl x), some (.inl y), some (.inl run), some (.inl n_), some (.inl mo), some (.inl (s16 3053)), some (.inl (mi_shl 1 r38)), o_8], [.inl (s43 3050)], n, D, s43, p, c0)) rfl ?_
          refine tz_ne (x := (s43 3050)) rfl rfl (by omega) (fun h167 => ?_) (fun h167 => ?_)
          · show tt Zi d 172 (141, [some (.inr (.inl 30)), some (.inl x), some (.inl y), some (.inl run), some (.inl n_), some (.inl mo), some (.inl (s16 3053)), some (.inl (mi_shl 1 r38)), o_8], [], n, D, s43, p, c0) _
            refine tt_k 2 (S' := (145, [some (.inr (.inl 30)), some (.inl x), some (.inl y), some (.inl run), some (.inl n_), some (.inl mo), some (.inl (s16 3053)), some (.inl (mi_shl 1 r38)), o_8], [.inl (s43 3050)], n, D, s43, p, c0)) rfl ?_
            refine tz_ne (x := (s43 3050)) rfl rfl (by omega) (fun h168 => ?_) (fun h168 => ?_)
            · show tt Zi d 172 (229, [some (.inr (.inl 30)), some (.inl x), some (.inl y), some (.inl run), some (.inl n_), some (.inl mo), some (.inl (s16 3053)), some (.inl (mi_shl 1 r38)), o_8], [], n, D, s43, p, c0) _
              refine tt_k 1 (S' := (11, [some (.inr (.inl 30)), some (.inl x), some (.inl y), some (.inl run), some (.inl n_), some (.inl mo), some (.inl (s16 3053)), some (.inl (mi_shl 1 r38)), o_8], [], n, D, s43, p, c0)) rfl ?_
              exact ih n_ mo (some (.inl (s16 3053))) (some (.inl (mi_shl 1 r38))) (o_8) s43 c0 (by omega) (by omega) hS43 (fr_tr (fr_tr hF0 f17 (by decide)) f45 (by decide)) hC0 hG0 (fun hz => absurd hz (by omega)) (fun hz => absurd hz (by omega)) (show x + n_ ≤ s 3037 by omega) (show mo = 1 → x + n_ < s 3037 by omega) (show mo = 1 ∨ 1 ≤ n_ ∨ (s43 3050) ≠ 0 by omega) (show s 3049 ≤ (s43 3049) by omega) (show s 3049 ≤ 32768 → (s43 3049) ≤ 32768 by omega) (show 0 ≤ (s43 3035) ∧ (s43 3035) ≤ 22 by omega) (show (if mo = 1 ∧ (s43 3050) = 0 then s 3037 - x - n_ + 1 else 0).toNat < m by omega)
            · exfalso; omega
          · show tt Zi d 172 (56, [some (.inr (.inl 30)), some (.inl x), some (.inl y), some (.inl run), some (.inl n_), some (.inl mo), some (.inl (s16 3053)), some (.inl (mi_shl 1 r38)), o_8], [], n, D, s43, p, c0) _
            refine tt_k 7 (S' := (67, [some (.inr (.inl 30)), some (.inl x), some (.inl y), some (.inl run), some (.inl n_), some (.inl mo), some (.inl (s16 3053)), some (.inl (mi_shl 1 r38)), o_8], [.inl ((((s43 3037) - x) - n_)), .inl (mi_shl 1 r38)], n, D, s43, p, c0)) rfl ?_
            have e169 : 1 ≤ (mi_shl 1 r38) ∧ (mi_shl 1 r38) ≤ 128 := mi_shl1b 0 7 (by omega) (by omega) (by decide)
            refine tt_cl (by omega) rfl (k_less (Zi := Zi) (D := D) (s := s43) (p := p) (c := c0) (by omega) hS43 hC0 (mi_shl 1 r38) ((((s43 3037) - x) - n_)) (by omega) (by omega)) ?_
            rintro _ _ ⟨r170, rfl, rfl, b171, k172⟩
            show tt Zi d 172 (70, [some (.inr (.inl 30)), some (.inl x), some (.inl y), some (.inl run), some (.inl n_), some (.inl mo), some (.inl (s16 3053)), some (.inl (mi_shl 1 r38)), o_8], [.inl r170], n, D, s43, p, c0) _
            replace k172 : r170 = min (mi_shl 1 r38) ((((s43 3037) - x) - n_)) := k172
            subst k172
            show tt Zi d 172 (70, [some (.inr (.inl 30)), some (.inl x), some (.inl y), some (.inl run), some (.inl n_), some (.inl mo), some (.inl (s16 3053)), some (.inl (mi_shl 1 r38)), o_8], [.inl ((min (mi_shl 1 r38) ((((s43 3037) - x) - n_))))], n, D, s43, p, c0) _
            refine tt_k 8 (S' := (81, [some (.inr (.inl 30)), some (.inl x), some (.inl y), some (.inl run), some (.inl n_), some (.inl mo), some (.inl (s16 3053)), some (.inl (mi_shl 1 r38)), some (.inl ((min (mi_shl 1 r38) ((((s43 3037) - x) - n_)))))], [.inl run, .inl ((min (mi_shl 1 r38) ((((s43 3037) - x) - n_)))), .inl y, .inl (x + n_), .inr (.inl 30)], n, D, s43, p, c0)) rfl ?_
            refine tt_cl (by omega) rfl (k_fill (Zi := Zi) (D := D) (s := s43) (p := p) (c := c0) (by omega) hS43 hC0 (x + n_) y ((min (mi_shl 1 r38) ((((s43 3037) - x) - n_)))) run (by omega) (by omega) (by omega) (by omega) (show (x + n_) + ((min (mi_shl 1 r38) ((((s43 3037) - x) - n_)))) ≤ 64 by omega)) ?_
            rintro _ _ ⟨c173, rfl, rfl, hC173, g174, k175, k176⟩
            show tt Zi d 172 (84, [some (.inr (.inl 30)), some (.inl x), some (.inl y), some (.inl run), some (.inl n_), some (.inl mo), some (.inl (s16 3053)), some (.inl (mi_shl 1 r38)), some (.inl ((min (mi_shl 1 r38) ((((s43 3037) - x) - n_)))))], [], n, D, s43, p, c173) _
            replace k175 : ∀ i : Nat, (i : Int) < (s43 3039) + 64 * y + (x + n_) ∨ (s43 3039) + 64 * y + (x + n_) + ((min (mi_shl 1 r38) ((((s43 3037) - x) - n_)))) ≤ i → (c173 44) i = (c0 44) i := k175
            replace k176 : ∀ i : Nat, (s43 3039) + 64 * y + (x + n_) ≤ i → (i : Int) < (s43 3039) + 64 * y + (x + n_) + ((min (mi_shl 1 r38) ((((s43 3037) - x) - n_)))) → (c173 44) i = run := k176
            have aW : s43 3037 = s0 3037 := ((f45 3037 (by decide)).trans (f17 3037 (by decide)))
            have aB : s43 3039 = s0 3039 := ((f45 3039 (by decide)).trans (f17 3039 (by decide)))
            have aM : s43 3017 = s0 3017 := ((f45 3017 (by decide)).trans (f17 3017 (by decide)))
            have hTf : tb (s43 3037) (s43 3039) (s43 3017) (c173 44) ((x + n_) + ((min (mi_shl 1 r38) ((((s43 3037) - x) - n_))))) y := tb_fill (by rw [aW, aB, aM]; exact i1 (by omega)) (by omega) (by omega) (by omega) (by omega) (by omega) (by omega) (by omega) k175 k176
            clear k175 k176
            refine tt_k 7 (S' := (96, [some (.inr (.inl 30)), some (.inl x), some (.inl y), some (.inl run), some (.inl ((n_ + (min (mi_shl 1 r38) ((((s43 3037) - x) - n_)))))), some (.inl mo), some (.inl (s16 3053)), some (.inl (mi_shl 1 r38)), some (.inl ((min (mi_shl 1 r38) ((((s43 3037) - x) - n_)))))], [.inl (mi_shl 1 r38), .inl ((min (mi_shl 1 r38) ((((s43 3037) - x) - n_)))), .inr (.inl 30)], n, D, s43, p, c173)) rfl ?_
            have K179 : ∀ (j178 : Int) , (-2147483648 ≤ j178 ∧ j178 ≤ 2147483647) → (0 ≤ j178 ∧ j178 ≤ 22) → (True) → tt Zi d 172 (117, [some (.inr (.inl 30)), some (.inl x), some (.inl y), some (.inl run), some (.inl ((n_ + (min (mi_shl 1 r38) ((((s43 3037) - x) - n_)))))), some (.inl mo), some (.inl (s16 3053)), some (.inl (mi_shl 1 r38)), some (.inl ((min (mi_shl 1 r38) ((((s43 3037) - x) - n_)))))], [.inl j178, .inr (.inl 30)], n, D, s43, p, c173) Q := by
              intro j178 b181 b182 hj180
              refine tt_k 6 (S' := (128, [some (.inr (.inl 30)), some (.inl x), some (.inl y), some (.inl run), some (.inl ((n_ + (min (mi_shl 1 r38) ((((s43 3037) - x) - n_)))))), some (.inl mo), some (.inl (s16 3053)), some (.inl (mi_shl 1 r38)), some (.inl ((min (mi_shl 1 r38) ((((s43 3037) - x) - n_)))))], [.inl (s43 3037), .inl ((x + (n_ + (min (mi_shl 1 r38) ((((s43 3037) - x) - n_))))))], n, D, (us s43 3035 j178), p, c173)) rfl ?_
              have K184 : ∀ (j183 : Int) , (0 ≤ j183 ∧ j183 ≤ 1) → (((s43 3037) ≤ (x + (n_ + (min (mi_shl 1 r38) ((((s43 3037) - x) - n_))))) ∧ j183 = 0) ∨ ((x + (n_ + (min (mi_shl 1 r38) ((((s43 3037) - x) - n_))))) < (s43 3037) ∧ j183 = 1)) → tt Zi d 172 (136, [some (.inr (.inl 30)), some (.inl x), some (.inl y), some (.inl run), some (.inl ((n_ + (min (mi_shl 1 r38) ((((s43 3037) - x) - n_)))))), some (.inl mo), some (.inl (s16 3053)), some (.inl (mi_shl 1 r38)), some (.inl ((min (mi_shl 1 r38) ((((s43 3037) - x) - n_)))))], [.inl j183], n, D, (us s43 3035 j178), p, c173) Q := by
                intro j183 b186 hj185
                refine tt_k 3 (S' := (11, [some (.inr (.inl 30)), some (.inl x), some (.inl y), some (.inl run), some (.inl ((n_ + (min (mi_shl 1 r38) ((((s43 3037) - x) - n_)))))), some (.inl j183), some (.inl (s16 3053)), some (.inl (mi_shl 1 r38)), some (.inl ((min (mi_shl 1 r38) ((((s43 3037) - x) - n_)))))], [], n, D, (us s43 3035 j178), p, c173)) rfl ?_
                have aQ : s43 3025 = s0 3025 := ((f45 3025 (by decide)).trans (f17 3025 (by decide)))
                have ro36 : c173 36 = c0 36 := g174 36 (by decide)
                have ro37 : c173 37 = c0 37 := g174 37 (by decide)
                have ro38 : c173 38 = c0 38 := g174 38 (by decide)
                have ro39 : c173 39 = c0 39 := g174 39 (by decide)
                exact ih ((n_ + (min (mi_shl 1 r38) ((((s43 3037) - x) - n_))))) j183 (some (.inl (s16 3053))) (some (.inl (mi_shl 1 r38))) (some (.inl ((min (mi_shl 1 r38) ((((s43 3037) - x) - n_)))))) (us s43 3035 j178) c173 (by omega) (by omega) (bS_us hS43 (show 0 ≤ j178 ∧ j178 ≤ 31 by omega)) (fr_us (by decide) (fr_tr (fr_tr hF0 f17 (by decide)) f45 (by decide))) hC173 (frc_tr hG0 g174 (by decide)) (fun hz => pl_mono (pl_eq (s := s0) aQ ro36 ro37 ro38 ro39 (i0 (by omega))) (by omega)) (by intro hz; rw [show x + (n_ + (min (mi_shl 1 r38) ((((s43 3037) - x) - n_)))) = x + n_ + (min (mi_shl 1 r38) ((((s43 3037) - x) - n_))) by omega]; exact hTf) (show x + ((n_ + (min (mi_shl 1 r38) ((((s43 3037) - x) - n_))))) ≤ s 3037 by omega) (show j183 = 1 → x + ((n_ + (min (mi_shl 1 r38) ((((s43 3037) - x) - n_))))) < s 3037 by omega) (show j183 = 1 ∨ 1 ≤ ((n_ + (min (mi_shl 1 r38) ((((s43 3037) - x) - n_))))) ∨ (s43 3050) ≠ 0 by omega) (show s 3049 ≤ (s43 3049) by omega) (show s 3049 ≤ 32768 → (s43 3049) ≤ 32768 by omega) (show 0 ≤ j178 ∧ j178 ≤ 22 by omega) (show (if j183 = 1 ∧ (s43 3050) = 0 then s 3037 - x - ((n_ + (min (mi_shl 1 r38) ((((s43 3037) - x) - n_))))) + 1 else 0).toNat < m by omega)
              refine tb_ge (x := (x + (n_ + (min (mi_shl 1 r38) ((((s43 3037) - x) - n_)))))) (y := (s43 3037)) rfl rfl (by omega) (fun h187 => ?_) (fun h187 => ?_)
              · show tt Zi d 172 (135, [some (.inr (.inl 30)), some (.inl x), some (.inl y), some (.inl run), some (.inl ((n_ + (min (mi_shl 1 r38) ((((s43 3037) - x) - n_)))))), some (.inl mo), some (.inl (s16 3053)), some (.inl (mi_shl 1 r38)), some (.inl ((min (mi_shl 1 r38) ((((s43 3037) - x) - n_)))))], [], n, D, (us s43 3035 j178), p, c173) _
                refine tt_k 1 (S' := (136, [some (.inr (.inl 30)), some (.inl x), some (.inl y), some (.inl run), some (.inl ((n_ + (min (mi_shl 1 r38) ((((s43 3037) - x) - n_)))))), some (.inl mo), some (.inl (s16 3053)), some (.inl (mi_shl 1 r38)), some (.inl ((min (mi_shl 1 r38) ((((s43 3037) - x) - n_)))))], [.inl 0], n, D, (us s43 3035 j178), p, c173)) rfl ?_
                exact K184 0  (by omega) (Or.inl ⟨h187, rfl⟩)
              · show tt Zi d 172 (131, [some (.inr (.inl 30)), some (.inl x), some (.inl y), some (.inl run), some (.inl ((n_ + (min (mi_shl 1 r38) ((((s43 3037) - x) - n_)))))), some (.inl mo), some (.inl (s16 3053)), some (.inl (mi_shl 1 r38)), some (.inl ((min (mi_shl 1 r38) ((((s43 3037) - x) - n_)))))], [], n, D, (us s43 3035 j178), p, c173) _
                refine tt_k 2 (S' := (136, [some (.inr (.inl 30)), some (.inl x), some (.inl y), some (.inl run), some (.inl ((n_ + (min (mi_shl 1 r38) ((((s43 3037) - x) - n_)))))), some (.inl mo), some (.inl (s16 3053)), some (.inl (mi_shl 1 r38)), some (.inl ((min (mi_shl 1 r38) ((((s43 3037) - x) - n_)))))], [.inl 1], n, D, (us s43 3035 j178), p, c173)) rfl ?_
                exact K184 1  (by omega) (Or.inr (⟨h187, rfl⟩))
            refine tb_ne (x := (min (mi_shl 1 r38) ((((s43 3037) - x) - n_)))) (y := (mi_shl 1 r38)) rfl rfl (by omega) (fun h188 => ?_) (fun h188 => ?_)
            · show tt Zi d 172 (113, [some (.inr (.inl 30)), some (.inl x), some (.inl y), some (.inl run), some (.inl ((n_ + (min (mi_shl 1 r38) ((((s43 3037) - x) - n_)))))), some (.inl mo), some (.inl (s16 3053)), some (.inl (mi_shl 1 r38)), some (.inl ((min (mi_shl 1 r38) ((((s43 3037) - x) - n_)))))], [.inr (.inl 30)], n, D, s43, p, c173) _
              refine tt_k 2 (S' := (117, [some (.inr (.inl 30)), some (.inl x), some (.inl y), some (.inl run), some (.inl ((n_ + (min (mi_shl 1 r38) ((((s43 3037) - x) - n_)))))), some (.inl mo), some (.inl (s16 3053)), some (.inl (mi_shl 1 r38)), some (.inl ((min (mi_shl 1 r38) ((((s43 3037) - x) - n_)))))], [.inl (s43 3035), .inr (.inl 30)], n, D, s43, p, c173)) rfl ?_
              exact K179 (s43 3035)  (by omega) (by omega) (trivial)
            · show tt Zi d 172 (99, [some (.inr (.inl 30)), some (.inl x), some (.inl y), some (.inl run), some (.inl ((n_ + (min (mi_shl 1 r38) ((((s43 3037) - x) - n_)))))), some (.inl mo), some (.inl (s16 3053)), some (.inl (mi_shl 1 r38)), some (.inl ((min (mi_shl 1 r38) ((((s43 3037) - x) - n_)))))], [.inr (.inl 30)], n, D, s43, p, c173) _
              refine tt_k 5 (S' := (107, [some (.inr (.inl 30)), some (.inl x), some (.inl y), some (.inl run), some (.inl ((n_ + (min (mi_shl 1 r38) ((((s43 3037) - x) - n_)))))), some (.inl mo), some (.inl (s16 3053)), some (.inl (mi_shl 1 r38)), some (.inl ((min (mi_shl 1 r38) ((((s43 3037) - x) - n_)))))], [.inl ((s43 3035) + 1), .inl 31, .inr (.inl 30)], n, D, s43, p, c173)) rfl ?_
              refine tt_cl (by omega) rfl (k_less (Zi := Zi) (D := D) (s := s43) (p := p) (c := c173) (by omega) hS43 hC173 31 ((s43 3035) + 1) (by omega) (by omega)) ?_
              rintro _ _ ⟨r189, rfl, rfl, b190, k191⟩
              show tt Zi d 172 (110, [some (.inr (.inl 30)), some (.inl x), some (.inl y), some (.inl run), some (.inl ((n_ + (min (mi_shl 1 r38) ((((s43 3037) - x) - n_)))))), some (.inl mo), some (.inl (s16 3053)), some (.inl (mi_shl 1 r38)), some (.inl ((min (mi_shl 1 r38) ((((s43 3037) - x) - n_)))))], [.inl r189, .inr (.inl 30)], n, D, s43, p, c173) _
              replace k191 : r189 = min 31 ((s43 3035) + 1) := k191
              subst k191
              show tt Zi d 172 (110, [some (.inr (.inl 30)), some (.inl x), some (.inl y), some (.inl run), some (.inl ((n_ + (min (mi_shl 1 r38) ((((s43 3037) - x) - n_)))))), some (.inl mo), some (.inl (s16 3053)), some (.inl (mi_shl 1 r38)), some (.inl ((min (mi_shl 1 r38) ((((s43 3037) - x) - n_)))))], [.inl ((min 31 ((s43 3035) + 1))), .inr (.inl 30)], n, D, s43, p, c173) _
              refine tt_k 1 (S' := (117, [some (.inr (.inl 30)), some (.inl x), some (.inl y), some (.inl run), some (.inl ((n_ + (min (mi_shl 1 r38) ((((s43 3037) - x) - n_)))))), some (.inl mo), some (.inl (s16 3053)), some (.inl (mi_shl 1 r38)), some (.inl ((min (mi_shl 1 r38) ((((s43 3037) - x) - n_)))))], [.inl ((min 31 ((s43 3035) + 1))), .inr (.inl 30)], n, D, s43, p, c173)) rfl ?_
              exact K179 ((min 31 ((s43 3035) + 1)))  (by omega) (by omega) (trivial)
set_option maxRecDepth 100000 in
set_option maxHeartbeats 4000000 in
theorem k_readRun {Zi : Nat → Option (Nat × (Nat → Int))} {d n : Nat} {D : Nat → Nat × Nat} {s : Nat → Int} {p : Nat → Nat} {c : Nat → Nat → Int} (hd : 6 ≤ d) (hS : bS s) (hC : bC D c) (t : Int) (x : Int) (y : Int) (b_x : 0 ≤ x ∧ x ≤ 63) (b_y : 0 ≤ y ∧ y ≤ 63) (hp0 : mv s) (hp1 : s 3036 = 0 ∧ s 3050 = 0 ∧ x < s 3037) (hp2 : s 3041 ≤ s 3017) (hp3 : pl s t c) (hp4 : tb (s 3037) (s 3039) (s 3017) (c 44) x y) (hp5 : 0 ≤ t ∧ t + s 3037 - x ≤ 4096) (hp6 : 0 ≤ s 3035 ∧ s 3035 ≤ 22) : tt Zi d 172 (0, [some (.inr (.inl 30)), some (.inl x), some (.inl y), none, none, none, none, none, none], [], n, D, s, p, c) (fun R H => ∃ (s' : Nat → Int) (c' : Nat → Nat → Int) (r : Int), R = .inl (some (.inl r)) ∧ H = (n, D, s', p, c') ∧ bS s' ∧ bC D c' ∧ fr s s' [3035, 3041, 3042, 3043, 3044, 3045, 3046, 3049, 3050, 3051, 3052, 3053, 3054] ∧ frc c c' [36, 37, 39, 44] ∧ (0 ≤ r ∧ r ≤ 64) ∧ (s' 3050 = 0 → pl s' (t + r) c') ∧ (s' 3050 = 0 → tb (s' 3037) (s' 3039) (s' 3017) (c' 44) (x + r) y) ∧ (s' 3050 = 0 → 1 ≤ r) ∧ (x + r ≤ s 3037) ∧ (s 3049 ≤ s' 3049) ∧ (s 3049 ≤ 32768 → s' 3049 ≤ 32768) ∧ (0 ≤ s' 3035 ∧ s' 3035 ≤ 22)) := by
  refine tt_k 7 (S' := (11, [some (.inr (.inl 30)), some (.inl x), some (.inl y), some (.inl (s 3041)), some (.inl 0), some (.inl 1), none, none, none], [], n, D, s, p, c)) rfl ?_
  have b1 : 0 ≤ (s 3041) ∧ (s 3041) ≤ 65535 := hS 3041
  have b2 : 0 ≤ (s 3036) ∧ (s 3036) ≤ 1 := hS 3036
  have b3 : 0 ≤ (s 3037) ∧ (s 3037) ≤ 64 := hS 3037
  have b4 : 0 ≤ (s 3017) ∧ (s 3017) ≤ 65535 := hS 3017
  refine k_readRun_L11 (Zi := Zi) (D := D) (s := s) (p := p) (c := c) hd hS hC t x y (s 3041) (by omega) (by omega) (by omega) hp0 (show (s 3036) = 0 ∧ x < (s 3037) by omega) (show (s 3041) ≤ (s 3017) by omega) (show 0 ≤ t ∧ t + (s 3037) - x ≤ 4096 by omega) ?_ _ 0 1 (none) (none) (none) s c (by omega) (by omega) hS fr_rf hC frc_rf (by rw [show t + 0 = t by omega]; exact fun _ => hp3) (by rw [show x + 0 = x by omega]; exact fun _ => hp4) (show x + 0 ≤ (s 3037) by omega) (show 1 = 1 → x + 0 < (s 3037) by omega) (show 1 = 1 ∨ 1 ≤ 0 ∨ ((s 3050)) ≠ 0 by omega) (Int.le_refl _) (fun h => h) hp6 (Nat.lt_succ_self _)
  intro x5 x6 x7 x8 x9 s10 c11 b12 b13 hS10 f14 hC11 g15 i16 i17 i18 i19 i20 i21 i22 i23 hx24
  show tt Zi d 172 (232, [some (.inr (.inl 30)), some (.inl x), some (.inl y), some (.inl (s 3041)), some (.inl x5), some (.inl x6), x7, x8, x9], [], n, D, s10, p, c11) _
  replace i17 : (s10 3050) = 0 → tb ((s10 3037)) ((s10 3039)) ((s10 3017)) ((c11 44)) (x + x5) y := i17
  replace i18 : x + x5 ≤ (s 3037) := i18
  replace i19 : x6 = 1 → x + x5 < (s 3037) := i19
  replace i20 : x6 = 1 ∨ 1 ≤ x5 ∨ (s10 3050) ≠ 0 := i20
  replace i21 : (s 3049) ≤ (s10 3049) := i21
  replace i22 : (s 3049) ≤ 32768 → (s10 3049) ≤ 32768 := i22
  replace i23 : 0 ≤ (s10 3035) ∧ (s10 3035) ≤ 22 := i23
  replace hx24 : x6 = 0 ∨ (s10 3050) ≠ 0 := hx24
  have hc25 : mv s10 := mv_fr f14 (by decide) hp0
  have e26 : s10 3039 = (s 3039) := (f14 3039 (by decide))
  have b27 : 0 ≤ (s10 3039) ∧ (s10 3039) ≤ 8192 := hS10 3039
  have b28 : 0 ≤ (s 3039) ∧ (s 3039) ≤ 8192 := hS 3039
  have e29 : s10 3017 = (s 3017) := (f14 3017 (by decide))
  have b30 : 0 ≤ (s10 3017) ∧ (s10 3017) ≤ 65535 := hS10 3017
  have e31 : s10 3037 = (s 3037) := (f14 3037 (by decide))
  have b32 : 0 ≤ (s10 3037) ∧ (s10 3037) ≤ 64 := hS10 3037
  have e33 : s10 3036 = (s 3036) := (f14 3036 (by decide))
  have b34 : 0 ≤ (s10 3036) ∧ (s10 3036) ≤ 1 := hS10 3036
  refine tt_k 1 (S' := (234, [some (.inr (.inl 30)), some (.inl x), some (.inl y), some (.inl (s 3041)), some (.inl x5), some (.inl x6), x7, x8, x9], [.inl x5], n, D, s10, p, c11)) rfl ?_
  exact tt_rti rfl rfl ⟨s10, c11, x5, rfl, rfl, hS10, hC11, (fr_tr fr_rf f14 (by decide)), (frc_tr frc_rf g15 (by decide)), by omega, i16, i17, by show (s10 3050) = 0 → 1 ≤ x5; omega, by show x + x5 ≤ s 3037; omega, i21, i22, i23⟩
