/-! the reference reads sections -/
set_option maxRecDepth 100000 in
set_option maxHeartbeats 4000000 in
theorem k_readFrame_L154 {Zi : Nat → Option (Nat × (Nat → Int))} {d n : Nat} {D : Nat → Nat × Nat} {s : Nat → Int} {p : Nat → Nat} {c : Nat → Nat → Int} {o_1 : Option mi_V} {o_2 : Option mi_V} {o_3 : Option mi_V} {Q : mi_Rs → mi_H → Prop} (hd : 3 ≤ d) (hS : bS s) (hC : bC D c) (n_ : Int) (k_ : Int) (b_n_ : 0 ≤ n_ ∧ n_ ≤ 255) (b_k_ : 0 ≤ k_ ∧ k_ ≤ 2) (hq0 : 1 ≤ s 3049)
  (hK : ∀ (i_ : Int) (s0 : Nat → Int) (b_i_ : 0 ≤ i_ ∧ i_ ≤ 3) (hS0 : bS s0) (hF0 : fr s s0 [3050, 3051]) (i0 : s 3050 ≠ 0 → s0 3050 ≠ 0) (i1 : i_ ≤ k_), (True) → tt Zi d 192 (202, [some (.inr (.inl 30)), o_1, o_2, o_3, some (.inl n_), some (.inl k_), some (.inl i_)], [], n, D, s0, p, c) Q) :
  ∀ (m : Nat) (i_ : Int) (s0 : Nat → Int) (b_i_ : 0 ≤ i_ ∧ i_ ≤ 3) (hS0 : bS s0) (hF0 : fr s s0 [3050, 3051]) (i0 : s 3050 ≠ 0 → s0 3050 ≠ 0) (i1 : i_ ≤ k_), (k_ - i_).toNat < m → tt Zi d 192 (154, [some (.inr (.inl 30)), o_1, o_2, o_3, some (.inl n_), some (.inl k_), some (.inl i_)], [], n, D, s0, p, c) Q := by
  intro m
  induction m with
  | zero => intro i_ s0 b_i_ hS0 hF0 i0 i1 hm; exact absurd hm (by omega)
  | succ m ih =>
    intro i_ s0 b_i_ hS0 hF0 i0 i1 hm
    have e1 : s0 3049 = s 3049 := hF0 3049 (by decide)
    have b2 : 0 ≤ (s0 3049) ∧ (s0 3049) ≤ 32769 := hS0 3049
    have b3 : 0 ≤ (s 3049) ∧ (s 3049) ≤ 32769 := hS 3049
    have e4 : s0 3014 = s 3014 := hF0 3014 (by decide)
    have b5 : 0 ≤ (s0 3014) ∧ (s0 3014) ≤ 32768 := hS0 3014
    have b6 : 0 ≤ (s 3014) ∧ (s 3014) ≤ 32768 := hS 3014
    have e7 : s0 3060 = s 3060 := hF0 3060 (by decide)
    have b8 : 0 ≤ (s0 3060) ∧ (s0 3060) ≤ 255 := hS0 3060
    have b9 : 0 ≤ (s 3060) ∧ (s 3060) ≤ 255 := hS 3060
    have e10 : s0 3057 = s 3057 := hF0 3057 (by decide)
    have b11 : 0 ≤ (s0 3057) ∧ (s0 3057) ≤ 65535 := hS0 3057
    have b12 : 0 ≤ (s 3057) ∧ (s 3057) ≤ 65535 := hS 3057
    have e13 : s0 3058 = s 3058 := hF0 3058 (by decide)
    have b14 : 0 ≤ (s0 3058) ∧ (s0 3058) ≤ 65535 := hS0 3058
    have b15 : 0 ≤ (s 3058) ∧ (s 3058) ≤ 65535 := hS 3058
    refine tt_k 2 (S' := (158, [some (.inr (.inl 30)), o_1, o_2, o_3, some (.inl n_), some (.inl k_), some (.inl i_)], [.inl k_, .inl i_], n, D, s0, p, c)) rfl ?_
    refine tb_ge (x := i_) (y := k_) rfl rfl (by omega) (fun h16 => ?_) (fun h16 => ?_)
    · show tt Zi d 192 (202, [some (.inr (.inl 30)), o_1, o_2, o_3, some (.inl n_), some (.inl k_), some (.inl i_)], [], n, D, s0, p, c) _
      exact hK i_ s0 (by omega) hS0 hF0 (show s 3050 ≠ 0 → (s0 3050) ≠ 0 by omega) (show i_ ≤ k_ by omega) trivial
    · show tt Zi d 192 (161, [some (.inr (.inl 30)), o_1, o_2, o_3, some (.inl n_), some (.inl k_), some (.inl i_)], [], n, D, s0, p, c) _
      refine tt_k 2 (S' := (165, [some (.inr (.inl 30)), o_1, o_2, o_3, some (.inl n_), some (.inl k_), some (.inl i_)], [.inl (s0 3050)], n, D, s0, p, c)) rfl ?_
      have b17 : 0 ≤ (s0 3050) ∧ (s0 3050) ≤ 8 := hS0 3050
      refine tz_ne (x := (s0 3050)) rfl rfl (by omega) (fun h18 => ?_) (fun h18 => ?_)
      · show tt Zi d 192 (196, [some (.inr (.inl 30)), o_1, o_2, o_3, some (.inl n_), some (.inl k_), some (.inl i_)], [], n, D, s0, p, c) _
        refine tt_k 2 (S' := (154, [some (.inr (.inl 30)), o_1, o_2, o_3, some (.inl n_), some (.inl k_), some (.inl (i_ + 1))], [], n, D, s0, p, c)) rfl ?_
        exact ih (i_ + 1) s0 (by omega) hS0 hF0 (show s 3050 ≠ 0 → (s0 3050) ≠ 0 by omega) (show (i_ + 1) ≤ k_ by omega) (show (k_ - (i_ + 1)).toNat < m by omega)
      · show tt Zi d 192 (168, [some (.inr (.inl 30)), o_1, o_2, o_3, some (.inl n_), some (.inl k_), some (.inl i_)], [], n, D, s0, p, c) _
        refine tt_k 3 (S' := (174, [some (.inr (.inl 30)), o_1, o_2, o_3, some (.inl n_), some (.inl k_), some (.inl i_)], [.inl i_, .inr (.inl 45)], n, D, s0, p, c)) rfl ?_
        refine tt_ildv (i := i_) (v := (c 45 (i_).toNat)) rfl rfl (by omega) rfl ?_
        show tt Zi d 192 (175, [some (.inr (.inl 30)), o_1, o_2, o_3, some (.inl n_), some (.inl k_), some (.inl i_)], [.inl (c 45 (i_).toNat)], n, D, s0, p, c) _
        have b19 : -2147483648 ≤ (c 45 (i_).toNat) ∧ (c 45 (i_).toNat) ≤ 2147483647 := hC 45 _
        refine tt_k 3 (S' := (181, [some (.inr (.inl 30)), o_1, o_2, o_3, some (.inl n_), some (.inl k_), some (.inl i_)], [.inl k_, .inr (.inl 45), .inl (c 45 (i_).toNat)], n, D, s0, p, c)) rfl ?_
        refine tt_ildv (i := k_) (v := (c 45 (k_).toNat)) rfl rfl (by omega) rfl ?_
        show tt Zi d 192 (182, [some (.inr (.inl 30)), o_1, o_2, o_3, some (.inl n_), some (.inl k_), some (.inl i_)], [.inl (c 45 (k_).toNat), .inl (c 45 (i_).toNat)], n, D, s0, p, c) _
        have b20 : -2147483648 ≤ (c 45 (k_).toNat) ∧ (c 45 (k_).toNat) ≤ 2147483647 := hC 45 _
        refine tb_ne (x := (c 45 (i_).toNat)) (y := (c 45 (k_).toNat)) rfl rfl (by omega) (fun h21 => ?_) (fun h21 => ?_)
        · show tt Zi d 192 (196, [some (.inr (.inl 30)), o_1, o_2, o_3, some (.inl n_), some (.inl k_), some (.inl i_)], [], n, D, s0, p, c) _
          refine tt_k 2 (S' := (154, [some (.inr (.inl 30)), o_1, o_2, o_3, some (.inl n_), some (.inl k_), some (.inl (i_ + 1))], [], n, D, s0, p, c)) rfl ?_
          exact ih (i_ + 1) s0 (by omega) hS0 hF0 (show s 3050 ≠ 0 → (s0 3050) ≠ 0 by omega) (show (i_ + 1) ≤ k_ by omega) (show (k_ - (i_ + 1)).toNat < m by omega)
        · show tt Zi d 192 (185, [some (.inr (.inl 30)), o_1, o_2, o_3, some (.inl n_), some (.inl k_), some (.inl i_)], [], n, D, s0, p, c) _
          refine tt_k 6 (S' := (193, [some (.inr (.inl 30)), o_1, o_2, o_3, some (.inl n_), some (.inl k_), some (.inl i_)], [.inl ((s0 3049) - 1), .inl 5, .inr (.inl 30)], n, D, s0, p, c)) rfl ?_
          refine tt_cl (by omega) rfl (k_fail (Zi := Zi) (D := D) (s := s0) (p := p) (c := c) (by omega) hS0 hC 5 ((s0 3049) - 1) (by omega) (by omega)) ?_
          rintro _ _ ⟨s22, rfl, rfl, hS22, f23, k24, k25⟩
          show tt Zi d 192 (196, [some (.inr (.inl 30)), o_1, o_2, o_3, some (.inl n_), some (.inl k_), some (.inl i_)], [], n, D, s22, p, c) _
          replace k24 : ((s0 3050) = 0 → (s22 3050) = 5 ∧ (s22 3051) = ((s0 3049) - 1)) := k24
          replace k25 : ((s0 3050) ≠ 0 → (s22 3050) = (s0 3050) ∧ (s22 3051) = (s0 3051)) := k25
          have b26 : 0 ≤ (s22 3050) ∧ (s22 3050) ≤ 8 := hS22 3050
          have b27 : -1 ≤ (s22 3051) ∧ (s22 3051) ≤ 32769 := hS22 3051
          have b28 : -1 ≤ (s0 3051) ∧ (s0 3051) ≤ 32769 := hS0 3051
          have e29 : s22 3049 = (s0 3049) := (f23 3049 (by decide))
          have b30 : 0 ≤ (s22 3049) ∧ (s22 3049) ≤ 32769 := hS22 3049
          have e31 : s22 3014 = (s0 3014) := (f23 3014 (by decide))
          have b32 : 0 ≤ (s22 3014) ∧ (s22 3014) ≤ 32768 := hS22 3014
          have e33 : s22 3060 = (s0 3060) := (f23 3060 (by decide))
          have b34 : 0 ≤ (s22 3060) ∧ (s22 3060) ≤ 255 := hS22 3060
          have e35 : s22 3057 = (s0 3057) := (f23 3057 (by decide))
          have b36 : 0 ≤ (s22 3057) ∧ (s22 3057) ≤ 65535 := hS22 3057
          have e37 : s22 3058 = (s0 3058) := (f23 3058 (by decide))
          have b38 : 0 ≤ (s22 3058) ∧ (s22 3058) ≤ 65535 := hS22 3058
          refine tt_k 2 (S' := (154, [some (.inr (.inl 30)), o_1, o_2, o_3, some (.inl n_), some (.inl k_), some (.inl (i_ + 1))], [], n, D, s22, p, c)) rfl ?_
          exact ih (i_ + 1) s22 (by omega) hS22 (fr_tr hF0 f23 (by decide)) (show s 3050 ≠ 0 → (s22 3050) ≠ 0 by omega) (show (i_ + 1) ≤ k_ by omega) (show (k_ - (i_ + 1)).toNat < m by omega)

set_option maxRecDepth 100000 in
set_option maxHeartbeats 4000000 in
theorem k_readFrame_L126 {Zi : Nat → Option (Nat × (Nat → Int))} {d n : Nat} {D : Nat → Nat × Nat} {s : Nat → Int} {p : Nat → Nat} {c : Nat → Nat → Int} {o_1 : Option mi_V} {o_2 : Option mi_V} {o_3 : Option mi_V} {Q : mi_Rs → mi_H → Prop} (hd : 3 ≤ d) (hS : bS s) (hC : bC D c) (n_ : Int) (b_n_ : 0 ≤ n_ ∧ n_ ≤ 255) (hq0 : 1 ≤ s 3049)
  (hK : ∀ (k_ : Int) (o_6 : Option mi_V) (s0 : Nat → Int) (c0 : Nat → Nat → Int) (b_k_ : 0 ≤ k_ ∧ k_ ≤ 3) (hS0 : bS s0) (hF0 : fr s s0 [3049, 3050, 3051]) (hC0 : bC D c0) (hG0 : frc c c0 [45]) (i0 : s 3049 ≤ s0 3049) (i1 : s 3050 ≠ 0 → s0 3050 ≠ 0) (i2 : s0 3050 = 0 → n_ ≤ 3), (True) → tt Zi d 192 (233, [some (.inr (.inl 30)), o_1, o_2, o_3, some (.inl n_), some (.inl k_), o_6], [], n, D, s0, p, c0) Q) :
  ∀ (m : Nat) (k_ : Int) (o_6 : Option mi_V) (s0 : Nat → Int) (c0 : Nat → Nat → Int) (b_k_ : 0 ≤ k_ ∧ k_ ≤ 3) (hS0 : bS s0) (hF0 : fr s s0 [3049, 3050, 3051]) (hC0 : bC D c0) (hG0 : frc c c0 [45]) (i0 : s 3049 ≤ s0 3049) (i1 : s 3050 ≠ 0 → s0 3050 ≠ 0) (i2 : s0 3050 = 0 → n_ ≤ 3), (if s0 3050 = 0 then 4 - k_ else 0).toNat < m → tt Zi d 192 (126, [some (.inr (.inl 30)), o_1, o_2, o_3, some (.inl n_), some (.inl k_), o_6], [], n, D, s0, p, c0) Q := by
  intro m
  induction m with
  | zero => intro k_ o_6 s0 c0 b_k_ hS0 hF0 hC0 hG0 i0 i1 i2 hm; exact absurd hm (by omega)
  | succ m ih =>
    intro k_ o_6 s0 c0 b_k_ hS0 hF0 hC0 hG0 i0 i1 i2 hm
    have e1 : s0 3014 = s 3014 := hF0 3014 (by decide)
    have b2 : 0 ≤ (s0 3014) ∧ (s0 3014) ≤ 32768 := hS0 3014
    have b3 : 0 ≤ (s 3014) ∧ (s 3014) ≤ 32768 := hS 3014
    have e4 : s0 3060 = s 3060 := hF0 3060 (by decide)
    have b5 : 0 ≤ (s0 3060) ∧ (s0 3060) ≤ 255 := hS0 3060
    have b6 : 0 ≤ (s 3060) ∧ (s 3060) ≤ 255 := hS 3060
    have e7 : s0 3057 = s 3057 := hF0 3057 (by decide)
    have b8 : 0 ≤ (s0 3057) ∧ (s0 3057) ≤ 65535 := hS0 3057
    have b9 : 0 ≤ (s 3057) ∧ (s 3057) ≤ 65535 := hS 3057
    have e10 : s0 3058 = s 3058 := hF0 3058 (by decide)
    have b11 : 0 ≤ (s0 3058) ∧ (s0 3058) ≤ 65535 := hS0 3058
    have b12 : 0 ≤ (s 3058) ∧ (s 3058) ≤ 65535 := hS 3058
    refine tt_k 2 (S' := (130, [some (.inr (.inl 30)), o_1, o_2, o_3, some (.inl n_), some (.inl k_), o_6], [.inl n_, .inl k_], n, D, s0, p, c0)) rfl ?_
    refine tb_ge (x := k_) (y := n_) rfl rfl (by omega) (fun h13 => ?_) (fun h13 => ?_)
    · show tt Zi d 192 (233, [some (.inr (.inl 30)), o_1, o_2, o_3, some (.inl n_), some (.inl k_), o_6], [], n, D, s0, p, c0) _
      exact hK k_ (o_6) s0 c0 (by omega) hS0 hF0 hC0 hG0 (show s 3049 ≤ (s0 3049) by omega) (show s 3050 ≠ 0 → (s0 3050) ≠ 0 by omega) (show (s0 3050) = 0 → n_ ≤ 3 by omega) trivial
    · show tt Zi d 192 (133, [some (.inr (.inl 30)), o_1, o_2, o_3, some (.inl n_), some (.inl k_), o_6], [], n, D, s0, p, c0) _
      refine tt_k 2 (S' := (137, [some (.inr (.inl 30)), o_1, o_2, o_3, some (.inl n_), some (.inl k_), o_6], [.inl (s0 3050)], n, D, s0, p, c0)) rfl ?_
      have b14 : 0 ≤ (s0 3050) ∧ (s0 3050) ≤ 8 := hS0 3050
      refine tz_ne (x := (s0 3050)) rfl rfl (by omega) (fun h15 => ?_) (fun h15 => ?_)
      · show tt Zi d 192 (233, [some (.inr (.inl 30)), o_1, o_2, o_3, some (.inl n_), some (.inl k_), o_6], [], n, D, s0, p, c0) _
        exact hK k_ (o_6) s0 c0 (by omega) hS0 hF0 hC0 hG0 (show s 3049 ≤ (s0 3049) by omega) (show s 3050 ≠ 0 → (s0 3050) ≠ 0 by omega) (show (s0 3050) = 0 → n_ ≤ 3 by omega) trivial
      · show tt Zi d 192 (140, [some (.inr (.inl 30)), o_1, o_2, o_3, some (.inl n_), some (.inl k_), o_6], [], n, D, s0, p, c0) _
        refine tt_k 4 (S' := (147, [some (.inr (.inl 30)), o_1, o_2, o_3, some (.inl n_), some (.inl k_), o_6], [.inr (.inl 30), .inl k_, .inr (.inl 45)], n, D, s0, p, c0)) rfl ?_
        refine tt_cl (by omega) rfl (k_nextByte (Zi := Zi) (D := D) (s := s0) (p := p) (c := c0) (by omega) hS0 hC0 ) ?_
        rintro _ _ ⟨s16, r17, rfl, rfl, hS16, f18, b19, k20, k21, k22⟩
        show tt Zi d 192 (150, [some (.inr (.inl 30)), o_1, o_2, o_3, some (.inl n_), some (.inl k_), o_6], [.inl r17, .inl k_, .inr (.inl 45)], n, D, s16, p, c0) _
        replace k20 : (s16 3050) = 0 → (s16 3049) = (s0 3049) + 1 ∧ (s16 3049) ≤ (s0 3014) := k20
        replace k21 : (s0 3049) ≤ (s16 3049) := k21
        replace k22 : (s0 3050) ≠ 0 → (s16 3050) ≠ 0 := k22
        have b23 : 0 ≤ (s0 3049) ∧ (s0 3049) ≤ 32769 := hS0 3049
        have b24 : 0 ≤ (s16 3050) ∧ (s16 3050) ≤ 8 := hS16 3050
        have b25 : 0 ≤ (s16 3049) ∧ (s16 3049) ≤ 32769 := hS16 3049
        have e26 : s16 3014 = (s0 3014) := (f18 3014 (by decide))
        have b27 : 0 ≤ (s16 3014) ∧ (s16 3014) ≤ 32768 := hS16 3014
        have e28 : s16 3060 = (s0 3060) := (f18 3060 (by decide))
        have b29 : 0 ≤ (s16 3060) ∧ (s16 3060) ≤ 255 := hS16 3060
        have e30 : s16 3057 = (s0 3057) := (f18 3057 (by decide))
        have b31 : 0 ≤ (s16 3057) ∧ (s16 3057) ≤ 65535 := hS16 3057
        have e32 : s16 3058 = (s0 3058) := (f18 3058 (by decide))
        have b33 : 0 ≤ (s16 3058) ∧ (s16 3058) ≤ 65535 := hS16 3058
        refine tt_ist (i := k_) (x := r17) rfl rfl (by omega) ?_
        show tt Zi d 192 (151, [some (.inr (.inl 30)), o_1, o_2, o_3, some (.inl n_), some (.inl k_), o_6], [], n, D, s16, p, (uc c0 45 (ua (c0 45) (k_).toNat r17))) _
        refine tt_k 2 (S' := (154, [some (.inr (.inl 30)), o_1, o_2, o_3, some (.inl n_), some (.inl k_), some (.inl 0)], [], n, D, s16, p, (uc c0 45 (ua (c0 45) (k_).toNat r17)))) rfl ?_
        refine k_readFrame_L154 (Zi := Zi) (D := D) (s := s16) (p := p) (c := (uc c0 45 (ua (c0 45) (k_).toNat r17))) hd hS16 (bC_st hC0 (show -2147483648 ≤ r17 ∧ r17 ≤ 2147483647 by omega))  n_ k_ (by omega) (by omega) (show 1 ≤ (s16 3049) by omega) ?_ _ 0 s16 (by omega) hS16 fr_rf (fun h => h) (show 0 ≤ k_ by omega) (Nat.lt_succ_self _)
        intro x34 s35 b36 hS35 f37 i38 i39 hx40
        show tt Zi d 192 (202, [some (.inr (.inl 30)), o_1, o_2, o_3, some (.inl n_), some (.inl k_), some (.inl x34)], [], n, D, s35, p, (uc c0 45 (ua (c0 45) (k_).toNat r17))) _
        replace i38 : (s16 3050) ≠ 0 → (s35 3050) ≠ 0 := i38
        replace i39 : x34 ≤ k_ := i39
        have e41 : s35 3049 = (s16 3049) := (f37 3049 (by decide))
        have b42 : 0 ≤ (s35 3049) ∧ (s35 3049) ≤ 32769 := hS35 3049
        have e43 : s35 3014 = (s16 3014) := (f37 3014 (by decide))
        have b44 : 0 ≤ (s35 3014) ∧ (s35 3014) ≤ 32768 := hS35 3014
        have e45 : s35 3060 = (s16 3060) := (f37 3060 (by decide))
        have b46 : 0 ≤ (s35 3060) ∧ (s35 3060) ≤ 255 := hS35 3060
        have e47 : s35 3057 = (s16 3057) := (f37 3057 (by decide))
        have b48 : 0 ≤ (s35 3057) ∧ (s35 3057) ≤ 65535 := hS35 3057
        have e49 : s35 3058 = (s16 3058) := (f37 3058 (by decide))
        have b50 : 0 ≤ (s35 3058) ∧ (s35 3058) ≤ 65535 := hS35 3058
        refine tt_k 2 (S' := (206, [some (.inr (.inl 30)), o_1, o_2, o_3, some (.inl n_), some (.inl k_), some (.inl x34)], [.inl (s35 3050)], n, D, s35, p, (uc c0 45 (ua (c0 45) (k_).toNat r17)))) rfl ?_
        have b51 : 0 ≤ (s35 3050) ∧ (s35 3050) ≤ 8 := hS35 3050
        refine tz_ne (x := (s35 3050)) rfl rfl (by omega) (fun h52 => ?_) (fun h52 => ?_)
        · show tt Zi d 192 (215, [some (.inr (.inl 30)), o_1, o_2, o_3, some (.inl n_), some (.inl k_), some (.inl x34)], [], n, D, s35, p, (uc c0 45 (ua (c0 45) (k_).toNat r17))) _
          refine tt_k 2 (S' := (219, [some (.inr (.inl 30)), o_1, o_2, o_3, some (.inl n_), some (.inl k_), some (.inl x34)], [.inl (s35 3050)], n, D, s35, p, (uc c0 45 (ua (c0 45) (k_).toNat r17)))) rfl ?_
          refine tz_ne (x := (s35 3050)) rfl rfl (by omega) (fun h53 => ?_) (fun h53 => ?_)
          · show tt Zi d 192 (227, [some (.inr (.inl 30)), o_1, o_2, o_3, some (.inl n_), some (.inl k_), some (.inl x34)], [], n, D, s35, p, (uc c0 45 (ua (c0 45) (k_).toNat r17))) _
            refine tt_k 2 (S' := (126, [some (.inr (.inl 30)), o_1, o_2, o_3, some (.inl n_), some (.inl (k_ + 1)), some (.inl x34)], [], n, D, s35, p, (uc c0 45 (ua (c0 45) (k_).toNat r17)))) rfl ?_
            exact ih (k_ + 1) (some (.inl x34)) s35 (uc c0 45 (ua (c0 45) (k_).toNat r17)) (by omega) hS35 (fr_tr (fr_tr hF0 f18 (by decide)) f37 (by decide)) (bC_st hC0 (show -2147483648 ≤ r17 ∧ r17 ≤ 2147483647 by omega)) (frc_uc (by decide) hG0) (show s 3049 ≤ (s35 3049) by omega) (show s 3050 ≠ 0 → (s35 3050) ≠ 0 by omega) (show (s35 3050) = 0 → n_ ≤ 3 by omega) (show (if (s35 3050) = 0 then 4 - (k_ + 1) else 0).toNat < m by omega)
          · exfalso; omega
        · show tt Zi d 192 (209, [some (.inr (.inl 30)), o_1, o_2, o_3, some (.inl n_), some (.inl k_), some (.inl x34)], [], n, D, s35, p, (uc c0 45 (ua (c0 45) (k_).toNat r17))) _
          refine tt_k 2 (S' := (212, [some (.inr (.inl 30)), o_1, o_2, o_3, some (.inl n_), some (.inl k_), some (.inl x34)], [.inl 17, .inr (.inl 30)], n, D, s35, p, (uc c0 45 (ua (c0 45) (k_).toNat r17)))) rfl ?_
          refine tt_cl (by omega) rfl (k_want (Zi := Zi) (D := D) (s := s35) (p := p) (c := (uc c0 45 (ua (c0 45) (k_).toNat r17))) (by omega) hS35 (bC_st hC0 (show -2147483648 ≤ r17 ∧ r17 ≤ 2147483647 by omega)) 17 (by omega)) ?_
          rintro _ _ ⟨s54, rfl, rfl, hS54, f55, k56, k57, k58⟩
          show tt Zi d 192 (215, [some (.inr (.inl 30)), o_1, o_2, o_3, some (.inl n_), some (.inl k_), some (.inl x34)], [], n, D, s54, p, (uc c0 45 (ua (c0 45) (k_).toNat r17))) _
          replace k56 : (s35 3049) ≤ (s54 3049) := k56
          replace k57 : (s35 3050) ≠ 0 → (s54 3050) ≠ 0 := k57
          replace k58 : (s54 3050) = 0 → (s54 3049) ≤ (s35 3014) := k58
          have b59 : 0 ≤ (s54 3049) ∧ (s54 3049) ≤ 32769 := hS54 3049
          have b60 : 0 ≤ (s54 3050) ∧ (s54 3050) ≤ 8 := hS54 3050
          have e61 : s54 3014 = (s35 3014) := (f55 3014 (by decide))
          have b62 : 0 ≤ (s54 3014) ∧ (s54 3014) ≤ 32768 := hS54 3014
          have e63 : s54 3060 = (s35 3060) := (f55 3060 (by decide))
          have b64 : 0 ≤ (s54 3060) ∧ (s54 3060) ≤ 255 := hS54 3060
          have e65 : s54 3057 = (s35 3057) := (f55 3057 (by decide))
          have b66 : 0 ≤ (s54 3057) ∧ (s54 3057) ≤ 65535 := hS54 3057
          have e67 : s54 3058 = (s35 3058) := (f55 3058 (by decide))
          have b68 : 0 ≤ (s54 3058) ∧ (s54 3058) ≤ 65535 := hS54 3058
          refine tt_k 2 (S' := (219, [some (.inr (.inl 30)), o_1, o_2, o_3, some (.inl n_), some (.inl k_), some (.inl x34)], [.inl (s54 3050)], n, D, s54, p, (uc c0 45 (ua (c0 45) (k_).toNat r17)))) rfl ?_
          refine tz_ne (x := (s54 3050)) rfl rfl (by omega) (fun h69 => ?_) (fun h69 => ?_)
          · show tt Zi d 192 (227, [some (.inr (.inl 30)), o_1, o_2, o_3, some (.inl n_), some (.inl k_), some (.inl x34)], [], n, D, s54, p, (uc c0 45 (ua (c0 45) (k_).toNat r17))) _
            refine tt_k 2 (S' := (126, [some (.inr (.inl 30)), o_1, o_2, o_3, some (.inl n_), some (.inl (k_ + 1)), some (.inl x34)], [], n, D, s54, p, (uc c0 45 (ua (c0 45) (k_).toNat r17)))) rfl ?_
            exact ih (k_ + 1) (some (.inl x34)) s54 (uc c0 45 (ua (c0 45) (k_).toNat r17)) (by omega) hS54 (fr_tr (fr_tr (fr_tr hF0 f18 (by decide)) f37 (by decide)) f55 (by decide)) (bC_st hC0 (show -2147483648 ≤ r17 ∧ r17 ≤ 2147483647 by omega)) (frc_uc (by decide) hG0) (show s 3049 ≤ (s54 3049) by omega) (show s 3050 ≠ 0 → (s54 3050) ≠ 0 by omega) (show (s54 3050) = 0 → n_ ≤ 3 by omega) (show (if (s54 3050) = 0 then 4 - (k_ + 1) else 0).toNat < m by omega)
          · show tt Zi d 192 (222, [some (.inr (.inl 30)), o_1, o_2, o_3, some (.inl n_), some (.inl k_), some (.inl x34)], [], n, D, s54, p, (uc c0 45 (ua (c0 45) (k_).toNat r17))) _
            refine tt_k 2 (S' := (224, [some (.inr (.inl 30)), o_1, o_2, o_3, some (.inl n_), some (.inl k_), some (.inl x34)], [.inl 0, .inr (.inl 30)], n, D, s54, p, (uc c0 45 (ua (c0 45) (k_).toNat r17)))) rfl ?_
            refine tt_cl (by omega) rfl (k_want (Zi := Zi) (D := D) (s := s54) (p := p) (c := (uc c0 45 (ua (c0 45) (k_).toNat r17))) (by omega) hS54 (bC_st hC0 (show -2147483648 ≤ r17 ∧ r17 ≤ 2147483647 by omega)) 0 (by omega)) ?_
            rintro _ _ ⟨s70, rfl, rfl, hS70, f71, k72, k73, k74⟩
            show tt Zi d 192 (227, [some (.inr (.inl 30)), o_1, o_2, o_3, some (.inl n_), some (.inl k_), some (.inl x34)], [], n, D, s70, p, (uc c0 45 (ua (c0 45) (k_).toNat r17))) _
            replace k72 : (s54 3049) ≤ (s70 3049) := k72
            replace k73 : (s54 3050) ≠ 0 → (s70 3050) ≠ 0 := k73
            replace k74 : (s70 3050) = 0 → (s70 3049) ≤ (s54 3014) := k74
            have b75 : 0 ≤ (s70 3049) ∧ (s70 3049) ≤ 32769 := hS70 3049
            have b76 : 0 ≤ (s70 3050) ∧ (s70 3050) ≤ 8 := hS70 3050
            have e77 : s70 3014 = (s54 3014) := (f71 3014 (by decide))
            have b78 : 0 ≤ (s70 3014) ∧ (s70 3014) ≤ 32768 := hS70 3014
            have e79 : s70 3060 = (s54 3060) := (f71 3060 (by decide))
            have b80 : 0 ≤ (s70 3060) ∧ (s70 3060) ≤ 255 := hS70 3060
            have e81 : s70 3057 = (s54 3057) := (f71 3057 (by decide))
            have b82 : 0 ≤ (s70 3057) ∧ (s70 3057) ≤ 65535 := hS70 3057
            have e83 : s70 3058 = (s54 3058) := (f71 3058 (by decide))
            have b84 : 0 ≤ (s70 3058) ∧ (s70 3058) ≤ 65535 := hS70 3058
            refine tt_k 2 (S' := (126, [some (.inr (.inl 30)), o_1, o_2, o_3, some (.inl n_), some (.inl (k_ + 1)), some (.inl x34)], [], n, D, s70, p, (uc c0 45 (ua (c0 45) (k_).toNat r17)))) rfl ?_
            exact ih (k_ + 1) (some (.inl x34)) s70 (uc c0 45 (ua (c0 45) (k_).toNat r17)) (by omega) hS70 (fr_tr (fr_tr (fr_tr (fr_tr hF0 f18 (by decide)) f37 (by decide)) f55 (by decide)) f71 (by decide)) (bC_st hC0 (show -2147483648 ≤ r17 ∧ r17 ≤ 2147483647 by omega)) (frc_uc (by decide) hG0) (show s 3049 ≤ (s70 3049) by omega) (show s 3050 ≠ 0 → (s70 3050) ≠ 0 by omega) (show (s70 3050) = 0 → n_ ≤ 3 by omega) (show (if (s70 3050) = 0 then 4 - (k_ + 1) else 0).toNat < m by omega)
set_option maxRecDepth 100000 in
set_option maxHeartbeats 4000000 in
theorem k_readFrame {Zi : Nat → Option (Nat × (Nat → Int))} {d n : Nat} {D : Nat → Nat × Nat} {s : Nat → Int} {p : Nat → Nat} {c : Nat → Nat → Int} (hd : 3 ≤ d) (hS : bS s) (hC : bC D c) (la : Int) (ln : Int) (b_la : 0 ≤ la ∧ la ≤ 32769) (b_ln : 0 ≤ ln ∧ ln ≤ 65535) (hp0 : s 3050 = 0) (hp1 : 1 ≤ s 3049) : tt Zi d 192 (0, [some (.inr (.inl 30)), some (.inl la), some (.inl ln), none, none, none, none], [], n, D, s, p, c) (fun R H => ∃ (s' : Nat → Int) (c' : Nat → Nat → Int), R = .inl none ∧ H = (n, D, s', p, c') ∧ bS s' ∧ bC D c' ∧ fr s s' [3049, 3050, 3051, 3057, 3058, 3059, 3060] ∧ frc c c' [45] ∧ (s 3049 ≤ s' 3049) ∧ (s' 3050 = 0 → (2 ≤ s' 3060 ∧ s' 3060 ≤ 16) ∧ (1 ≤ s' 3057 ∧ s' 3057 ≤ 64) ∧ (1 ≤ s' 3058 ∧ s' 3058 ≤ 64))) := by
  refine tt_k 3 (S' := (3, [some (.inr (.inl 30)), some (.inl la), some (.inl ln), none, none, none, none], [.inr (.inl 30), .inr (.inl 30), .inr (.inl 30)], n, D, s, p, c)) rfl ?_
  refine tt_cl (by omega) rfl (k_nextByte (Zi := Zi) (D := D) (s := s) (p := p) (c := c) (by omega) hS hC ) ?_
  rintro _ _ ⟨s1, r2, rfl, rfl, hS1, f3, b4, k5, k6, k7⟩
  show tt Zi d 192 (6, [some (.inr (.inl 30)), some (.inl la), some (.inl ln), none, none, none, none], [.inl r2, .inr (.inl 30), .inr (.inl 30)], n, D, s1, p, c) _
  replace k5 : (s1 3050) = 0 → (s1 3049) = (s 3049) + 1 ∧ (s1 3049) ≤ (s 3014) := k5
  replace k6 : (s 3049) ≤ (s1 3049) := k6
  replace k7 : (s 3050) ≠ 0 → (s1 3050) ≠ 0 := k7
  have b8 : 0 ≤ (s 3049) ∧ (s 3049) ≤ 32769 := hS 3049
  have b9 : 0 ≤ (s 3014) ∧ (s 3014) ≤ 32768 := hS 3014
  have b10 : 0 ≤ (s1 3050) ∧ (s1 3050) ≤ 8 := hS1 3050
  have b11 : 0 ≤ (s1 3049) ∧ (s1 3049) ≤ 32769 := hS1 3049
  have b12 : 0 ≤ (s 3050) ∧ (s 3050) ≤ 8 := hS 3050
  have e13 : s1 3014 = (s 3014) := (f3 3014 (by decide))
  have b14 : 0 ≤ (s1 3014) ∧ (s1 3014) ≤ 32768 := hS1 3014
  have e15 : s1 3060 = (s 3060) := (f3 3060 (by decide))
  have b16 : 0 ≤ (s1 3060) ∧ (s1 3060) ≤ 255 := hS1 3060
  have b17 : 0 ≤ (s 3060) ∧ (s 3060) ≤ 255 := hS 3060
  have e18 : s1 3057 = (s 3057) := (f3 3057 (by decide))
  have b19 : 0 ≤ (s1 3057) ∧ (s1 3057) ≤ 65535 := hS1 3057
  have b20 : 0 ≤ (s 3057) ∧ (s 3057) ≤ 65535 := hS 3057
  have e21 : s1 3058 = (s 3058) := (f3 3058 (by decide))
  have b22 : 0 ≤ (s1 3058) ∧ (s1 3058) ≤ 65535 := hS1 3058
  have b23 : 0 ≤ (s 3058) ∧ (s 3058) ≤ 65535 := hS 3058
  refine tt_k 6 (S' := (15, [some (.inr (.inl 30)), some (.inl la), some (.inl ln), none, none, none, none], [.inl 16, .inl 2, .inl ((s1 3049) - 1), .inl r2, .inr (.inl 30), .inr (.inl 30)], n, D, s1, p, c)) rfl ?_
  refine tt_cl (by omega) rfl (k_between (Zi := Zi) (D := D) (s := s1) (p := p) (c := c) (by omega) hS1 hC r2 ((s1 3049) - 1) 2 16 (by omega) (by omega) (by omega) (by omega)) ?_
  rintro _ _ ⟨s24, r25, rfl, rfl, hS24, f26, b27, k28, k29, k30⟩
  show tt Zi d 192 (18, [some (.inr (.inl 30)), some (.inl la), some (.inl ln), none, none, none, none], [.inl r25, .inr (.inl 30)], n, D, s24, p, c) _
  replace k28 : r25 = r2 := k28
  replace k29 : (s1 3050) ≠ 0 → (s24 3050) ≠ 0 := k29
  replace k30 : (s24 3050) = 0 → 2 ≤ r2 ∧ r2 ≤ 16 := k30
  have b31 : 0 ≤ (s24 3050) ∧ (s24 3050) ≤ 8 := hS24 3050
  have e32 : s24 3049 = (s1 3049) := (f26 3049 (by decide))
  have b33 : 0 ≤ (s24 3049) ∧ (s24 3049) ≤ 32769 := hS24 3049
  have e34 : s24 3014 = (s1 3014) := (f26 3014 (by decide))
  have b35 : 0 ≤ (s24 3014) ∧ (s24 3014) ≤ 32768 := hS24 3014
  have e36 : s24 3060 = (s1 3060) := (f26 3060 (by decide))
  have b37 : 0 ≤ (s24 3060) ∧ (s24 3060) ≤ 255 := hS24 3060
  have e38 : s24 3057 = (s1 3057) := (f26 3057 (by decide))
  have b39 : 0 ≤ (s24 3057) ∧ (s24 3057) ≤ 65535 := hS24 3057
  have e40 : s24 3058 = (s1 3058) := (f26 3058 (by decide))
  have b41 : 0 ≤ (s24 3058) ∧ (s24 3058) ≤ 65535 := hS24 3058
  refine tt_k 7 (S' := (29, [some (.inr (.inl 30)), some (.inl la), some (.inl ln), some (.inl (s24 3049)), none, none, none], [.inr (.inl 30), .inr (.inl 30), .inr (.inl 30)], n, D, (us s24 3060 r25), p, c)) rfl ?_
  refine tt_cl (by omega) rfl (k_nextTwo (Zi := Zi) (D := D) (s := (us s24 3060 r25)) (p := p) (c := c) (by omega) (bS_us hS24 (show 0 ≤ r25 ∧ r25 ≤ 255 by omega)) hC ) ?_
  rintro _ _ ⟨s42, r43, rfl, rfl, hS42, f44, b45, k46, k47, k48⟩
  show tt Zi d 192 (32, [some (.inr (.inl 30)), some (.inl la), some (.inl ln), some (.inl (s24 3049)), none, none, none], [.inl r43, .inr (.inl 30), .inr (.inl 30)], n, D, s42, p, c) _
  replace k46 : (s24 3049) ≤ (s42 3049) := k46
  replace k47 : (s24 3050) ≠ 0 → (s42 3050) ≠ 0 := k47
  replace k48 : (s42 3050) = 0 → (s42 3049) = (s24 3049) + 2 ∧ (s42 3049) ≤ (s24 3014) := k48
  have b49 : 0 ≤ (s42 3049) ∧ (s42 3049) ≤ 32769 := hS42 3049
  have b50 : 0 ≤ (s42 3050) ∧ (s42 3050) ≤ 8 := hS42 3050
  have e51 : s42 3014 = (s24 3014) := (f44 3014 (by decide))
  have b52 : 0 ≤ (s42 3014) ∧ (s42 3014) ≤ 32768 := hS42 3014
  have e53 : s42 3060 = r25 := (f44 3060 (by decide))
  have b54 : 0 ≤ (s42 3060) ∧ (s42 3060) ≤ 255 := hS42 3060
  have e55 : s42 3057 = (s24 3057) := (f44 3057 (by decide))
  have b56 : 0 ≤ (s42 3057) ∧ (s42 3057) ≤ 65535 := hS42 3057
  have e57 : s42 3058 = (s24 3058) := (f44 3058 (by decide))
  have b58 : 0 ≤ (s42 3058) ∧ (s42 3058) ≤ 65535 := hS42 3058
  refine tt_k 3 (S' := (36, [some (.inr (.inl 30)), some (.inl la), some (.inl ln), some (.inl (s24 3049)), none, none, none], [.inl 64, .inl 1, .inl (s24 3049), .inl r43, .inr (.inl 30), .inr (.inl 30)], n, D, s42, p, c)) rfl ?_
  refine tt_cl (by omega) rfl (k_between (Zi := Zi) (D := D) (s := s42) (p := p) (c := c) (by omega) hS42 hC r43 (s24 3049) 1 64 (by omega) (by omega) (by omega) (by omega)) ?_
  rintro _ _ ⟨s59, r60, rfl, rfl, hS59, f61, b62, k63, k64, k65⟩
  show tt Zi d 192 (39, [some (.inr (.inl 30)), some (.inl la), some (.inl ln), some (.inl (s24 3049)), none, none, none], [.inl r60, .inr (.inl 30)], n, D, s59, p, c) _
  replace k63 : r60 = r43 := k63
  replace k64 : (s42 3050) ≠ 0 → (s59 3050) ≠ 0 := k64
  replace k65 : (s59 3050) = 0 → 1 ≤ r43 ∧ r43 ≤ 64 := k65
  have b66 : 0 ≤ (s59 3050) ∧ (s59 3050) ≤ 8 := hS59 3050
  have e67 : s59 3049 = (s42 3049) := (f61 3049 (by decide))
  have b68 : 0 ≤ (s59 3049) ∧ (s59 3049) ≤ 32769 := hS59 3049
  have e69 : s59 3014 = (s42 3014) := (f61 3014 (by decide))
  have b70 : 0 ≤ (s59 3014) ∧ (s59 3014) ≤ 32768 := hS59 3014
  have e71 : s59 3060 = (s42 3060) := (f61 3060 (by decide))
  have b72 : 0 ≤ (s59 3060) ∧ (s59 3060) ≤ 255 := hS59 3060
  have e73 : s59 3057 = (s42 3057) := (f61 3057 (by decide))
  have b74 : 0 ≤ (s59 3057) ∧ (s59 3057) ≤ 65535 := hS59 3057
  have e75 : s59 3058 = (s42 3058) := (f61 3058 (by decide))
  have b76 : 0 ≤ (s59 3058) ∧ (s59 3058) ≤ 65535 := hS59 3058
  refine tt_k 7 (S' := (50, [some (.inr (.inl 30)), some (.inl la), some (.inl ln), some (.inl (s59 3049)), none, none, none], [.inr (.inl 30), .inr (.inl 30), .inr (.inl 30)], n, D, (us s59 3058 r60), p, c)) rfl ?_
  refine tt_cl (by omega) rfl (k_nextTwo (Zi := Zi) (D := D) (s := (us s59 3058 r60)) (p := p) (c := c) (by omega) (bS_us hS59 (show 0 ≤ r60 ∧ r60 ≤ 65535 by omega)) hC ) ?_
  rintro _ _ ⟨s77, r78, rfl, rfl, hS77, f79, b80, k81, k82, k83⟩
  show tt Zi d 192 (53, [some (.inr (.inl 30)), some (.inl la), some (.inl ln), some (.inl (s59 3049)), none, none, none], [.inl r78, .inr (.inl 30), .inr (.inl 30)], n, D, s77, p, c) _
  replace k81 : (s59 3049) ≤ (s77 3049) := k81
  replace k82 : (s59 3050) ≠ 0 → (s77 3050) ≠ 0 := k82
  replace k83 : (s77 3050) = 0 → (s77 3049) = (s59 3049) + 2 ∧ (s77 3049) ≤ (s59 3014) := k83
  have b84 : 0 ≤ (s77 3049) ∧ (s77 3049) ≤ 32769 := hS77 3049
  have b85 : 0 ≤ (s77 3050) ∧ (s77 3050) ≤ 8 := hS77 3050
  have e86 : s77 3014 = (s59 3014) := (f79 3014 (by decide))
  have b87 : 0 ≤ (s77 3014) ∧ (s77 3014) ≤ 32768 := hS77 3014
  have e88 : s77 3060 = (s59 3060) := (f79 3060 (by decide))
  have b89 : 0 ≤ (s77 3060) ∧ (s77 3060) ≤ 255 := hS77 3060
  have e90 : s77 3057 = (s59 3057) := (f79 3057 (by decide))
  have b91 : 0 ≤ (s77 3057) ∧ (s77 3057) ≤ 65535 := hS77 3057
  have e92 : s77 3058 = r60 := (f79 3058 (by decide))
  have b93 : 0 ≤ (s77 3058) ∧ (s77 3058) ≤ 65535 := hS77 3058
  refine tt_k 3 (S' := (57, [some (.inr (.inl 30)), some (.inl la), some (.inl ln), some (.inl (s59 3049)), none, none, none], [.inl 64, .inl 1, .inl (s59 3049), .inl r78, .inr (.inl 30), .inr (.inl 30)], n, D, s77, p, c)) rfl ?_
  refine tt_cl (by omega) rfl (k_between (Zi := Zi) (D := D) (s := s77) (p := p) (c := c) (by omega) hS77 hC r78 (s59 3049) 1 64 (by omega) (by omega) (by omega) (by omega)) ?_
  rintro _ _ ⟨s94, r95, rfl, rfl, hS94, f96, b97, k98, k99, k100⟩
  show tt Zi d 192 (60, [some (.inr (.inl 30)), some (.inl la), some (.inl ln), some (.inl (s59 3049)), none, none, none], [.inl r95, .inr (.inl 30)], n, D, s94, p, c) _
  replace k98 : r95 = r78 := k98
  replace k99 : (s77 3050) ≠ 0 → (s94 3050) ≠ 0 := k99
  replace k100 : (s94 3050) = 0 → 1 ≤ r78 ∧ r78 ≤ 64 := k100
  have b101 : 0 ≤ (s94 3050) ∧ (s94 3050) ≤ 8 := hS94 3050
  have e102 : s94 3049 = (s77 3049) := (f96 3049 (by decide))
  have b103 : 0 ≤ (s94 3049) ∧ (s94 3049) ≤ 32769 := hS94 3049
  have e104 : s94 3014 = (s77 3014) := (f96 3014 (by decide))
  have b105 : 0 ≤ (s94 3014) ∧ (s94 3014) ≤ 32768 := hS94 3014
  have e106 : s94 3060 = (s77 3060) := (f96 3060 (by decide))
  have b107 : 0 ≤ (s94 3060) ∧ (s94 3060) ≤ 255 := hS94 3060
  have e108 : s94 3057 = (s77 3057) := (f96 3057 (by decide))
  have b109 : 0 ≤ (s94 3057) ∧ (s94 3057) ≤ 65535 := hS94 3057
  have e110 : s94 3058 = (s77 3058) := (f96 3058 (by decide))
  have b111 : 0 ≤ (s94 3058) ∧ (s94 3058) ≤ 65535 := hS94 3058
  refine tt_k 2 (S' := (64, [some (.inr (.inl 30)), some (.inl la), some (.inl ln), some (.inl (s59 3049)), none, none, none], [.inr (.inl 30)], n, D, (us s94 3057 r95), p, c)) rfl ?_
  refine tt_cl (by omega) rfl (k_nextByte (Zi := Zi) (D := D) (s := (us s94 3057 r95)) (p := p) (c := c) (by omega) (bS_us hS94 (show 0 ≤ r95 ∧ r95 ≤ 65535 by omega)) hC ) ?_
  rintro _ _ ⟨s112, r113, rfl, rfl, hS112, f114, b115, k116, k117, k118⟩
  show tt Zi d 192 (67, [some (.inr (.inl 30)), some (.inl la), some (.inl ln), some (.inl (s59 3049)), none, none, none], [.inl r113], n, D, s112, p, c) _
  replace k116 : (s112 3050) = 0 → (s112 3049) = (s94 3049) + 1 ∧ (s112 3049) ≤ (s94 3014) := k116
  replace k117 : (s94 3049) ≤ (s112 3049) := k117
  replace k118 : (s94 3050) ≠ 0 → (s112 3050) ≠ 0 := k118
  have b119 : 0 ≤ (s112 3050) ∧ (s112 3050) ≤ 8 := hS112 3050
  have b120 : 0 ≤ (s112 3049) ∧ (s112 3049) ≤ 32769 := hS112 3049
  have e121 : s112 3014 = (s94 3014) := (f114 3014 (by decide))
  have b122 : 0 ≤ (s112 3014) ∧ (s112 3014) ≤ 32768 := hS112 3014
  have e123 : s112 3060 = (s94 3060) := (f114 3060 (by decide))
  have b124 : 0 ≤ (s112 3060) ∧ (s112 3060) ≤ 255 := hS112 3060
  have e125 : s112 3057 = r95 := (f114 3057 (by decide))
  have b126 : 0 ≤ (s112 3057) ∧ (s112 3057) ≤ 65535 := hS112 3057
  have e127 : s112 3058 = (s94 3058) := (f114 3058 (by decide))
  have b128 : 0 ≤ (s112 3058) ∧ (s112 3058) ≤ 65535 := hS112 3058
  refine tt_k 3 (S' := (73, [some (.inr (.inl 30)), some (.inl la), some (.inl ln), some (.inl (s59 3049)), some (.inl r113), none, none], [.inl (s112 3050)], n, D, s112, p, c)) rfl ?_
  refine tz_ne (x := (s112 3050)) rfl rfl (by omega) (fun h129 => ?_) (fun h129 => ?_)
  · show tt Zi d 192 (99, [some (.inr (.inl 30)), some (.inl la), some (.inl ln), some (.inl (s59 3049)), some (.inl r113), none, none], [], n, D, s112, p, c) _
    refine tt_k 2 (S' := (103, [some (.inr (.inl 30)), some (.inl la), some (.inl ln), some (.inl (s59 3049)), some (.inl r113), none, none], [.inl (s112 3050)], n, D, s112, p, c)) rfl ?_
    refine tz_ne (x := (s112 3050)) rfl rfl (by omega) (fun h130 => ?_) (fun h130 => ?_)
    · show tt Zi d 192 (123, [some (.inr (.inl 30)), some (.inl la), some (.inl ln), some (.inl (s59 3049)), some (.inl r113), none, none], [], n, D, s112, p, c) _
      refine tt_k 2 (S' := (126, [some (.inr (.inl 30)), some (.inl la), some (.inl ln), some (.inl (s59 3049)), some (.inl r113), some (.inl 0), none], [], n, D, s112, p, c)) rfl ?_
      refine k_readFrame_L126 (Zi := Zi) (D := D) (s := s112) (p := p) (c := c) hd hS112 hC  r113 (by omega) (show 1 ≤ (s112 3049) by omega) ?_ _ 0 (none) s112 c (by omega) hS112 fr_rf hC frc_rf (Int.le_refl _) (fun h => h) (show (s112 3050) = 0 → r113 ≤ 3 by omega) (Nat.lt_succ_self _)
      intro x131 x132 s133 c134 b135 hS133 f136 hC134 g137 i138 i139 i140 hx141
      show tt Zi d 192 (233, [some (.inr (.inl 30)), some (.inl la), some (.inl ln), some (.inl (s59 3049)), some (.inl r113), some (.inl x131), x132], [], n, D, s133, p, c134) _
      replace i138 : (s112 3049) ≤ (s133 3049) := i138
      replace i139 : (s112 3050) ≠ 0 → (s133 3050) ≠ 0 := i139
      replace i140 : (s133 3050) = 0 → r113 ≤ 3 := i140
      have e142 : s133 3014 = (s112 3014) := (f136 3014 (by decide))
      have b143 : 0 ≤ (s133 3014) ∧ (s133 3014) ≤ 32768 := hS133 3014
      have e144 : s133 3060 = (s112 3060) := (f136 3060 (by decide))
      have b145 : 0 ≤ (s133 3060) ∧ (s133 3060) ≤ 255 := hS133 3060
      have e146 : s133 3057 = (s112 3057) := (f136 3057 (by decide))
      have b147 : 0 ≤ (s133 3057) ∧ (s133 3057) ≤ 65535 := hS133 3057
      have e148 : s133 3058 = (s112 3058) := (f136 3058 (by decide))
      have b149 : 0 ≤ (s133 3058) ∧ (s133 3058) ≤ 65535 := hS133 3058
      refine tt_k 3 (S' := (238, [some (.inr (.inl 30)), some (.inl la), some (.inl ln), some (.inl (s59 3049)), some (.inl r113), some (.inl x131), x132], [.inl (s133 3050), .inr (.inl 30)], n, D, s133, p, c134)) rfl ?_
      have b150 : 0 ≤ (s133 3050) ∧ (s133 3050) ≤ 8 := hS133 3050
      have K152 : ∀ (j151 : Int) , (0 ≤ j151 ∧ j151 ≤ 255) → (((s133 3050) ≠ 0 ∧ j151 = 0) ∨ ((s133 3050) = 0 ∧ j151 = r113)) → tt Zi d 192 (247, [some (.inr (.inl 30)), some (.inl la), some (.inl ln), some (.inl (s59 3049)), some (.inl r113), some (.inl x131), x132], [.inl j151, .inr (.inl 30)], n, D, s133, p, c134) (fun R H => ∃ (s' : Nat → Int) (c' : Nat → Nat → Int), R = .inl none ∧ H = (n, D, s', p, c') ∧ bS s' ∧ bC D c' ∧ fr s s' [3049, 3050, 3051, 3057, 3058, 3059, 3060] ∧ frc c c' [45] ∧ (s 3049 ≤ s' 3049) ∧ (s' 3050 = 0 → (2 ≤ s' 3060 ∧ s' 3060 ≤ 16) ∧ (1 ≤ s' 3057 ∧ s' 3057 ≤ 64) ∧ (1 ≤ s' 3058 ∧ s' 3058 ≤ 64))) := by
        intro j151 b154 hj153
        refine tt_k 1 (S' := (250, [some (.inr (.inl 30)), some (.inl la), some (.inl ln), some (.inl (s59 3049)), some (.inl r113), some (.inl x131), x132], [], n, D, (us s133 3059 j151), p, c134)) rfl ?_
        exact tt_rtv rfl rfl ⟨(us s133 3059 j151), c134, rfl, rfl, (bS_us hS133 (show 0 ≤ j151 ∧ j151 ≤ 3 by omega)), hC134, (fr_us (by decide) (fr_tr (fr_tr (fr_us (by decide) (fr_tr (fr_tr (fr_us (by decide) (fr_tr (fr_tr (fr_us (by decide) (fr_tr (fr_tr fr_rf f3 (by decide)) f26 (by decide))) f44 (by decide)) f61 (by decide))) f79 (by decide)) f96 (by decide))) f114 (by decide)) f136 (by decide))), (frc_tr frc_rf g137 (by decide)), by show s 3049 ≤ (s133 3049); omega, by show (s133 3050) = 0 → (2 ≤ (s133 3060) ∧ (s133 3060) ≤ 16) ∧ (1 ≤ (s133 3057) ∧ (s133 3057) ≤ 64) ∧ (1 ≤ (s133 3058) ∧ (s133 3058) ≤ 64); omega⟩
      refine tz_ne (x := (s133 3050)) rfl rfl (by omega) (fun h155 => ?_) (fun h155 => ?_)
      · show tt Zi d 192 (246, [some (.inr (.inl 30)), some (.inl la), some (.inl ln), some (.inl (s59 3049)), some (.inl r113), some (.inl x131), x132], [.inr (.inl 30)], n, D, s133, p, c134) _
        refine tt_k 1 (S' := (247, [some (.inr (.inl 30)), some (.inl la), some (.inl ln), some (.inl (s59 3049)), some (.inl r113), some (.inl x131), x132], [.inl 0, .inr (.inl 30)], n, D, s133, p, c134)) rfl ?_
        exact K152 0  (by omega) (Or.inl ⟨h155, rfl⟩)
      · show tt Zi d 192 (241, [some (.inr (.inl 30)), some (.inl la), some (.inl ln), some (.inl (s59 3049)), some (.inl r113), some (.inl x131), x132], [.inr (.inl 30)], n, D, s133, p, c134) _
        refine tt_k 2 (S' := (247, [some (.inr (.inl 30)), some (.inl la), some (.inl ln), some (.inl (s59 3049)), some (.inl r113), some (.inl x131), x132], [.inl r113, .inr (.inl 30)], n, D, s133, p, c134)) rfl ?_
        exact K152 r113  (by omega) (Or.inr (⟨h155, rfl⟩))
    · exfalso; omega
  · show tt Zi d 192 (76, [some (.inr (.inl 30)), some (.inl la), some (.inl ln), some (.inl (s59 3049)), some (.inl r113), none, none], [], n, D, s112, p, c) _
    refine tt_k 2 (S' := (79, [some (.inr (.inl 30)), some (.inl la), some (.inl ln), some (.inl (s59 3049)), some (.inl r113), none, none], [.inl 1, .inl r113], n, D, s112, p, c)) rfl ?_
    refine tb_eq (x := r113) (y := 1) rfl rfl (by omega) (fun h156 => ?_) (fun h156 => ?_)
    · show tt Zi d 192 (99, [some (.inr (.inl 30)), some (.inl la), some (.inl ln), some (.inl (s59 3049)), some (.inl r113), none, none], [], n, D, s112, p, c) _
      refine tt_k 2 (S' := (103, [some (.inr (.inl 30)), some (.inl la), some (.inl ln), some (.inl (s59 3049)), some (.inl r113), none, none], [.inl (s112 3050)], n, D, s112, p, c)) rfl ?_
      refine tz_ne (x := (s112 3050)) rfl rfl (by omega) (fun h157 => ?_) (fun h157 => ?_)
      · exfalso; omega
      · show tt Zi d 192 (106, [some (.inr (.inl 30)), some (.inl la), some (.inl ln), some (.inl (s59 3049)), some (.inl r113), none, none], [], n, D, s112, p, c) _
        refine tt_k 6 (S' := (114, [some (.inr (.inl 30)), some (.inl la), some (.inl ln), some (.inl (s59 3049)), some (.inl r113), none, none], [.inl (8 + (3 * r113)), .inl ln], n, D, s112, p, c)) rfl ?_
        refine tb_eq (x := ln) (y := (8 + (3 * r113))) rfl rfl (by omega) (fun h158 => ?_) (fun h158 => ?_)
        · show tt Zi d 192 (123, [some (.inr (.inl 30)), some (.inl la), some (.inl ln), some (.inl (s59 3049)), some (.inl r113), none, none], [], n, D, s112, p, c) _
          refine tt_k 2 (S' := (126, [some (.inr (.inl 30)), some (.inl la), some (.inl ln), some (.inl (s59 3049)), some (.inl r113), some (.inl 0), none], [], n, D, s112, p, c)) rfl ?_
          refine k_readFrame_L126 (Zi := Zi) (D := D) (s := s112) (p := p) (c := c) hd hS112 hC  r113 (by omega) (show 1 ≤ (s112 3049) by omega) ?_ _ 0 (none) s112 c (by omega) hS112 fr_rf hC frc_rf (Int.le_refl _) (fun h => h) (show (s112 3050) = 0 → r113 ≤ 3 by omega) (Nat.lt_succ_self _)
          intro x159 x160 s161 c162 b163 hS161 f164 hC162 g165 i166 i167 i168 hx169
          show tt Zi d 192 (233, [some (.inr (.inl 30)), some (.inl la), some (.inl ln), some (.inl (s59 3049)), some (.inl r113), some (.inl x159), x160], [], n, D, s161, p, c162) _
          replace i166 : (s112 3049) ≤ (s161 3049) := i166
          replace i167 : (s112 3050) ≠ 0 → (s161 3050) ≠ 0 := i167
          replace i168 : (s161 3050) = 0 → r113 ≤ 3 := i168
          have e170 : s161 3014 = (s112 3014) := (f164 3014 (by decide))
          have b171 : 0 ≤ (s161 3014) ∧ (s161 3014) ≤ 32768 := hS161 3014
          have e172 : s161 3060 = (s112 3060) := (f164 3060 (by decide))
          have b173 : 0 ≤ (s161 3060) ∧ (s161 3060) ≤ 255 := hS161 3060
          have e174 : s161 3057 = (s112 3057) := (f164 3057 (by decide))
          have b175 : 0 ≤ (s161 3057) ∧ (s161 3057) ≤ 65535 := hS161 3057
          have e176 : s161 3058 = (s112 3058) := (f164 3058 (by decide))
          have b177 : 0 ≤ (s161 3058) ∧ (s161 3058) ≤ 65535 := hS161 3058
          refine tt_k 3 (S' := (238, [some (.inr (.inl 30)), some (.inl la), some (.inl ln), some (.inl (s59 3049)), some (.inl r113), some (.inl x159), x160], [.inl (s161 3050), .inr (.inl 30)], n, D, s161, p, c162)) rfl ?_
          have b178 : 0 ≤ (s161 3050) ∧ (s161 3050) ≤ 8 := hS161 3050
          have K180 : ∀ (j179 : Int) , (0 ≤ j179 ∧ j179 ≤ 1) → (((s161 3050) ≠ 0 ∧ j179 = 0) ∨ ((s161 3050) = 0 ∧ j179 = r113)) → tt Zi d 192 (247, [some (.inr (.inl 30)), some (.inl la), some (.inl ln), some (.inl (s59 3049)), some (.inl r113), some (.inl x159), x160], [.inl j179, .inr (.inl 30)], n, D, s161, p, c162) (fun R H => ∃ (s' : Nat → Int) (c' : Nat → Nat → Int), R = .inl none ∧ H = (n, D, s', p, c') ∧ bS s' ∧ bC D c' ∧ fr s s' [3049, 3050, 3051, 3057, 3058, 3059, 3060] ∧ frc c c' [45] ∧ (s 3049 ≤ s' 3049) ∧ (s' 3050 = 0 → (2 ≤ s' 3060 ∧ s' 3060 ≤ 16) ∧ (1 ≤ s' 3057 ∧ s' 3057 ≤ 64) ∧ (1 ≤ s' 3058 ∧ s' 3058 ≤ 64))) := by
            intro j179 b182 hj181
            refine tt_k 1 (S' := (250, [some (.inr (.inl 30)), some (.inl la), some (.inl ln), some (.inl (s59 3049)), some (.inl r113), some (.inl x159), x160], [], n, D, (us s161 3059 j179), p, c162)) rfl ?_
            exact tt_rtv rfl rfl ⟨(us s161 3059 j179), c162, rfl, rfl, (bS_us hS161 (show 0 ≤ j179 ∧ j179 ≤ 3 by omega)), hC162, (fr_us (by decide) (fr_tr (fr_tr (fr_us (by decide) (fr_tr (fr_tr (fr_us (by decide) (fr_tr (fr_tr (fr_us (by decide) (fr_tr (fr_tr fr_rf f3 (by decide)) f26 (by decide))) f44 (by decide)) f61 (by decide))) f79 (by decide)) f96 (by decide))) f114 (by decide)) f164 (by decide))), (frc_tr frc_rf g165 (by decide)), by show s 3049 ≤ (s161 3049); omega, by show (s161 3050) = 0 → (2 ≤ (s161 3060) ∧ (s161 3060) ≤ 16) ∧ (1 ≤ (s161 3057) ∧ (s161 3057) ≤ 64) ∧ (1 ≤ (s161 3058) ∧ (s161 3058) ≤ 64); omega⟩
          refine tz_ne (x := (s161 3050)) rfl rfl (by omega) (fun h183 => ?_) (fun h183 => ?_)
          · show tt Zi d 192 (246, [some (.inr (.inl 30)), some (.inl la), some (.inl ln), some (.inl (s59 3049)), some (.inl r113), some (.inl x159), x160], [.inr (.inl 30)], n, D, s161, p, c162) _
            refine tt_k 1 (S' := (247, [some (.inr (.inl 30)), some (.inl la), some (.inl ln), some (.inl (s59 3049)), some (.inl r113), some (.inl x159), x160], [.inl 0, .inr (.inl 30)], n, D, s161, p, c162)) rfl ?_
            exact K180 0  (by omega) (Or.inl ⟨h183, rfl⟩)
          · show tt Zi d 192 (241, [some (.inr (.inl 30)), some (.inl la), some (.inl ln), some (.inl (s59 3049)), some (.inl r113), some (.inl x159), x160], [.inr (.inl 30)], n, D, s161, p, c162) _
            refine tt_k 2 (S' := (247, [some (.inr (.inl 30)), some (.inl la), some (.inl ln), some (.inl (s59 3049)), some (.inl r113), some (.inl x159), x160], [.inl r113, .inr (.inl 30)], n, D, s161, p, c162)) rfl ?_
            exact K180 r113  (by omega) (Or.inr (⟨h183, rfl⟩))
        · show tt Zi d 192 (117, [some (.inr (.inl 30)), some (.inl la), some (.inl ln), some (.inl (s59 3049)), some (.inl r113), none, none], [], n, D, s112, p, c) _
          refine tt_k 3 (S' := (120, [some (.inr (.inl 30)), some (.inl la), some (.inl ln), some (.inl (s59 3049)), some (.inl r113), none, none], [.inl la, .inl 4, .inr (.inl 30)], n, D, s112, p, c)) rfl ?_
          refine tt_cl (by omega) rfl (k_fail (Zi := Zi) (D := D) (s := s112) (p := p) (c := c) (by omega) hS112 hC 4 la (by omega) (by omega)) ?_
          rintro _ _ ⟨s184, rfl, rfl, hS184, f185, k186, k187⟩
          show tt Zi d 192 (123, [some (.inr (.inl 30)), some (.inl la), some (.inl ln), some (.inl (s59 3049)), some (.inl r113), none, none], [], n, D, s184, p, c) _
          replace k186 : ((s112 3050) = 0 → (s184 3050) = 4 ∧ (s184 3051) = la) := k186
          replace k187 : ((s112 3050) ≠ 0 → (s184 3050) = (s112 3050) ∧ (s184 3051) = (s112 3051)) := k187
          have b188 : 0 ≤ (s184 3050) ∧ (s184 3050) ≤ 8 := hS184 3050
          have b189 : -1 ≤ (s184 3051) ∧ (s184 3051) ≤ 32769 := hS184 3051
          have b190 : -1 ≤ (s112 3051) ∧ (s112 3051) ≤ 32769 := hS112 3051
          have e191 : s184 3049 = (s112 3049) := (f185 3049 (by decide))
          have b192 : 0 ≤ (s184 3049) ∧ (s184 3049) ≤ 32769 := hS184 3049
          have e193 : s184 3014 = (s112 3014) := (f185 3014 (by decide))
          have b194 : 0 ≤ (s184 3014) ∧ (s184 3014) ≤ 32768 := hS184 3014
          have e195 : s184 3060 = (s112 3060) := (f185 3060 (by decide))
          have b196 : 0 ≤ (s184 3060) ∧ (s184 3060) ≤ 255 := hS184 3060
          have e197 : s184 3057 = (s112 3057) := (f185 3057 (by decide))
          have b198 : 0 ≤ (s184 3057) ∧ (s184 3057) ≤ 65535 := hS184 3057
          have e199 : s184 3058 = (s112 3058) := (f185 3058 (by decide))
          have b200 : 0 ≤ (s184 3058) ∧ (s184 3058) ≤ 65535 := hS184 3058
          refine tt_k 2 (S' := (126, [some (.inr (.inl 30)), some (.inl la), some (.inl ln), some (.inl (s59 3049)), some (.inl r113), some (.inl 0), none], [], n, D, s184, p, c)) rfl ?_
          refine k_readFrame_L126 (Zi := Zi) (D := D) (s := s184) (p := p) (c := c) hd hS184 hC  r113 (by omega) (show 1 ≤ (s184 3049) by omega) ?_ _ 0 (none) s184 c (by omega) hS184 fr_rf hC frc_rf (Int.le_refl _) (fun h => h) (show (s184 3050) = 0 → r113 ≤ 3 by omega) (Nat.lt_succ_self _)
          intro x201 x202 s203 c204 b205 hS203 f206 hC204 g207 i208 i209 i210 hx211
          show tt Zi d 192 (233, [some (.inr (.inl 30)), some (.inl la), some (.inl ln), some (.inl (s59 3049)), some (.inl r113), some (.inl x201), x202], [], n, D, s203, p, c204) _
          replace i208 : (s184 3049) ≤ (s203 3049) := i208
          replace i209 : (s184 3050) ≠ 0 → (s203 3050) ≠ 0 := i209
          replace i210 : (s203 3050) = 0 → r113 ≤ 3 := i210
          have e212 : s203 3014 = (s184 3014) := (f206 3014 (by decide))
          have b213 : 0 ≤ (s203 3014) ∧ (s203 3014) ≤ 32768 := hS203 3014
          have e214 : s203 3060 = (s184 3060) := (f206 3060 (by decide))
          have b215 : 0 ≤ (s203 3060) ∧ (s203 3060) ≤ 255 := hS203 3060
          have e216 : s203 3057 = (s184 3057) := (f206 3057 (by decide))
          have b217 : 0 ≤ (s203 3057) ∧ (s203 3057) ≤ 65535 := hS203 3057
          have e218 : s203 3058 = (s184 3058) := (f206 3058 (by decide))
          have b219 : 0 ≤ (s203 3058) ∧ (s203 3058) ≤ 65535 := hS203 3058
          refine tt_k 3 (S' := (238, [some (.inr (.inl 30)), some (.inl la), some (.inl ln), some (.inl (s59 3049)), some (.inl r113), some (.inl x201), x202], [.inl (s203 3050), .inr (.inl 30)], n, D, s203, p, c204)) rfl ?_
          have b220 : 0 ≤ (s203 3050) ∧ (s203 3050) ≤ 8 := hS203 3050
          have K222 : ∀ (j221 : Int) , (0 ≤ j221 ∧ j221 ≤ 1) → (((s203 3050) ≠ 0 ∧ j221 = 0) ∨ ((s203 3050) = 0 ∧ j221 = r113)) → tt Zi d 192 (247, [some (.inr (.inl 30)), some (.inl la), some (.inl ln), some (.inl (s59 3049)), some (.inl r113), some (.inl x201), x202], [.inl j221, .inr (.inl 30)], n, D, s203, p, c204) (fun R H => ∃ (s' : Nat → Int) (c' : Nat → Nat → Int), R = .inl none ∧ H = (n, D, s', p, c') ∧ bS s' ∧ bC D c' ∧ fr s s' [3049, 3050, 3051, 3057, 3058, 3059, 3060] ∧ frc c c' [45] ∧ (s 3049 ≤ s' 3049) ∧ (s' 3050 = 0 → (2 ≤ s' 3060 ∧ s' 3060 ≤ 16) ∧ (1 ≤ s' 3057 ∧ s' 3057 ≤ 64) ∧ (1 ≤ s' 3058 ∧ s' 3058 ≤ 64))) := by
            intro j221 b224 hj223
            refine tt_k 1 (S' := (250, [some (.inr (.inl 30)), some (.inl la), some (.inl ln), some (.inl (s59 3049)), some (.inl r113), some (.inl x201), x202], [], n, D, (us s203 3059 j221), p, c204)) rfl ?_
            exact tt_rtv rfl rfl ⟨(us s203 3059 j221), c204, rfl, rfl, (bS_us hS203 (show 0 ≤ j221 ∧ j221 ≤ 3 by omega)), hC204, (fr_us (by decide) (fr_tr (fr_tr (fr_tr (fr_us (by decide) (fr_tr (fr_tr (fr_us (by decide) (fr_tr (fr_tr (fr_us (by decide) (fr_tr (fr_tr fr_rf f3 (by decide)) f26 (by decide))) f44 (by decide)) f61 (by decide))) f79 (by decide)) f96 (by decide))) f114 (by decide)) f185 (by decide)) f206 (by decide))), (frc_tr frc_rf g207 (by decide)), by show s 3049 ≤ (s203 3049); omega, by show (s203 3050) = 0 → (2 ≤ (s203 3060) ∧ (s203 3060) ≤ 16) ∧ (1 ≤ (s203 3057) ∧ (s203 3057) ≤ 64) ∧ (1 ≤ (s203 3058) ∧ (s203 3058) ≤ 64); omega⟩
          refine tz_ne (x := (s203 3050)) rfl rfl (by omega) (fun h225 => ?_) (fun h225 => ?_)
          · show tt Zi d 192 (246, [some (.inr (.inl 30)), some (.inl la), some (.inl ln), some (.inl (s59 3049)), some (.inl r113), some (.inl x201), x202], [.inr (.inl 30)], n, D, s203, p, c204) _
            refine tt_k 1 (S' := (247, [some (.inr (.inl 30)), some (.inl la), some (.inl ln), some (.inl (s59 3049)), some (.inl r113), some (.inl x201), x202], [.inl 0, .inr (.inl 30)], n, D, s203, p, c204)) rfl ?_
            exact K222 0  (by omega) (Or.inl ⟨h225, rfl⟩)
          · show tt Zi d 192 (241, [some (.inr (.inl 30)), some (.inl la), some (.inl ln), some (.inl (s59 3049)), some (.inl r113), some (.inl x201), x202], [.inr (.inl 30)], n, D, s203, p, c204) _
            refine tt_k 2 (S' := (247, [some (.inr (.inl 30)), some (.inl la), some (.inl ln), some (.inl (s59 3049)), some (.inl r113), some (.inl x201), x202], [.inl r113, .inr (.inl 30)], n, D, s203, p, c204)) rfl ?_
            exact K222 r113  (by omega) (Or.inr (⟨h225, rfl⟩))
    · show tt Zi d 192 (82, [some (.inr (.inl 30)), some (.inl la), some (.inl ln), some (.inl (s59 3049)), some (.inl r113), none, none], [], n, D, s112, p, c) _
      refine tt_k 2 (S' := (85, [some (.inr (.inl 30)), some (.inl la), some (.inl ln), some (.inl (s59 3049)), some (.inl r113), none, none], [.inl 3, .inl r113], n, D, s112, p, c)) rfl ?_
      refine tb_eq (x := r113) (y := 3) rfl rfl (by omega) (fun h226 => ?_) (fun h226 => ?_)
      · show tt Zi d 192 (99, [some (.inr (.inl 30)), some (.inl la), some (.inl ln), some (.inl (s59 3049)), some (.inl r113), none, none], [], n, D, s112, p, c) _
        refine tt_k 2 (S' := (103, [some (.inr (.inl 30)), some (.inl la), some (.inl ln), some (.inl (s59 3049)), some (.inl r113), none, none], [.inl (s112 3050)], n, D, s112, p, c)) rfl ?_
        refine tz_ne (x := (s112 3050)) rfl rfl (by omega) (fun h227 => ?_) (fun h227 => ?_)
        · exfalso; omega
        · show tt Zi d 192 (106, [some (.inr (.inl 30)), some (.inl la), some (.inl ln), some (.inl (s59 3049)), some (.inl r113), none, none], [], n, D, s112, p, c) _
          refine tt_k 6 (S' := (114, [some (.inr (.inl 30)), some (.inl la), some (.inl ln), some (.inl (s59 3049)), some (.inl r113), none, none], [.inl (8 + (3 * r113)), .inl ln], n, D, s112, p, c)) rfl ?_
          refine tb_eq (x := ln) (y := (8 + (3 * r113))) rfl rfl (by omega) (fun h228 => ?_) (fun h228 => ?_)
          · show tt Zi d 192 (123, [some (.inr (.inl 30)), some (.inl la), some (.inl ln), some (.inl (s59 3049)), some (.inl r113), none, none], [], n, D, s112, p, c) _
            refine tt_k 2 (S' := (126, [some (.inr (.inl 30)), some (.inl la), some (.inl ln), some (.inl (s59 3049)), some (.inl r113), some (.inl 0), none], [], n, D, s112, p, c)) rfl ?_
            refine k_readFrame_L126 (Zi := Zi) (D := D) (s := s112) (p := p) (c := c) hd hS112 hC  r113 (by omega) (show 1 ≤ (s112 3049) by omega) ?_ _ 0 (none) s112 c (by omega) hS112 fr_rf hC frc_rf (Int.le_refl _) (fun h => h) (show (s112 3050) = 0 → r113 ≤ 3 by omega) (Nat.lt_succ_self _)
            intro x229 x230 s231 c232 b233 hS231 f234 hC232 g235 i236 i237 i238 hx239
            show tt Zi d 192 (233, [some (.inr (.inl 30)), some (.inl la), some (.inl ln), some (.inl (s59 3049)), some (.inl r113), some (.inl x229), x230], [], n, D, s231, p, c232) _
            replace i236 : (s112 3049) ≤ (s231 3049) := i236
            replace i237 : (s112 3050) ≠ 0 → (s231 3050) ≠ 0 := i237
            replace i238 : (s231 3050) = 0 → r113 ≤ 3 := i238
            have e240 : s231 3014 = (s112 3014) := (f234 3014 (by decide))
            have b241 : 0 ≤ (s231 3014) ∧ (s231 3014) ≤ 32768 := hS231 3014
            have e242 : s231 3060 = (s112 3060) := (f234 3060 (by decide))
            have b243 : 0 ≤ (s231 3060) ∧ (s231 3060) ≤ 255 := hS231 3060
            have e244 : s231 3057 = (s112 3057) := (f234 3057 (by decide))
            have b245 : 0 ≤ (s231 3057) ∧ (s231 3057) ≤ 65535 := hS231 3057
            have e246 : s231 3058 = (s112 3058) := (f234 3058 (by decide))
            have b247 : 0 ≤ (s231 3058) ∧ (s231 3058) ≤ 65535 := hS231 3058
            refine tt_k 3 (S' := (238, [some (.inr (.inl 30)), some (.inl la), some (.inl ln), some (.inl (s59 3049)), some (.inl r113), some (.inl x229), x230], [.inl (s231 3050), .inr (.inl 30)], n, D, s231, p, c232)) rfl ?_
            have b248 : 0 ≤ (s231 3050) ∧ (s231 3050) ≤ 8 := hS231 3050
            have K250 : ∀ (j249 : Int) , (0 ≤ j249 ∧ j249 ≤ 3) → (((s231 3050) ≠ 0 ∧ j249 = 0) ∨ ((s231 3050) = 0 ∧ j249 = r113)) → tt Zi d 192 (247, [some (.inr (.inl 30)), some (.inl la), some (.inl ln), some (.inl (s59 3049)), some (.inl r113), some (.inl x229), x230], [.inl j249, .inr (.inl 30)], n, D, s231, p, c232) (fun R H => ∃ (s' : Nat → Int) (c' : Nat → Nat → Int), R = .inl none ∧ H = (n, D, s', p, c') ∧ bS s' ∧ bC D c' ∧ fr s s' [3049, 3050, 3051, 3057, 3058, 3059, 3060] ∧ frc c c' [45] ∧ (s 3049 ≤ s' 3049) ∧ (s' 3050 = 0 → (2 ≤ s' 3060 ∧ s' 3060 ≤ 16) ∧ (1 ≤ s' 3057 ∧ s' 3057 ≤ 64) ∧ (1 ≤ s' 3058 ∧ s' 3058 ≤ 64))) := by
              intro j249 b252 hj251
              refine tt_k 1 (S' := (250, [some (.inr (.inl 30)), some (.inl la), some (.inl ln), some (.inl (s59 3049)), some (.inl r113), some (.inl x229), x230], [], n, D, (us s231 3059 j249), p, c232)) rfl ?_
              exact tt_rtv rfl rfl ⟨(us s231 3059 j249), c232, rfl, rfl, (bS_us hS231 (show 0 ≤ j249 ∧ j249 ≤ 3 by omega)), hC232, (fr_us (by decide) (fr_tr (fr_tr (fr_us (by decide) (fr_tr (fr_tr (fr_us (by decide) (fr_tr (fr_tr (fr_us (by decide) (fr_tr (fr_tr fr_rf f3 (by decide)) f26 (by decide))) f44 (by decide)) f61 (by decide))) f79 (by decide)) f96 (by decide))) f114 (by decide)) f234 (by decide))), (frc_tr frc_rf g235 (by decide)), by show s 3049 ≤ (s231 3049); omega, by show (s231 3050) = 0 → (2 ≤ (s231 3060) ∧ (s231 3060) ≤ 16) ∧ (1 ≤ (s231 3057) ∧ (s231 3057) ≤ 64) ∧ (1 ≤ (s231 3058) ∧ (s231 3058) ≤ 64); omega⟩
            refine tz_ne (x := (s231 3050)) rfl rfl (by omega) (fun h253 => ?_) (fun h253 => ?_)
            · show tt Zi d 192 (246, [some (.inr (.inl 30)), some (.inl la), some (.inl ln), some (.inl (s59 3049)), some (.inl r113), some (.inl x229), x230], [.inr (.inl 30)], n, D, s231, p, c232) _
              refine tt_k 1 (S' := (247, [some (.inr (.inl 30)), some (.inl la), some (.inl ln), some (.inl (s59 3049)), some (.inl r113), some (.inl x229), x230], [.inl 0, .inr (.inl 30)], n, D, s231, p, c232)) rfl ?_
              exact K250 0  (by omega) (Or.inl ⟨h253, rfl⟩)
            · show tt Zi d 192 (241, [some (.inr (.inl 30)), some (.inl la), some (.inl ln), some (.inl (s59 3049)), some (.inl r113), some (.inl x229), x230], [.inr (.inl 30)], n, D, s231, p, c232) _
              refine tt_k 2 (S' := (247, [some (.inr (.inl 30)), some (.inl la), some (.inl ln), some (.inl (s59 3049)), some (.inl r113), some (.inl x229), x230], [.inl r113, .inr (.inl 30)], n, D, s231, p, c232)) rfl ?_
              exact K250 r113  (by omega) (Or.inr (⟨h253, rfl⟩))
          · show tt Zi d 192 (117, [some (.inr (.inl 30)), some (.inl la), some (.inl ln), some (.inl (s59 3049)), some (.inl r113), none, none], [], n, D, s112, p, c) _
            refine tt_k 3 (S' := (120, [some (.inr (.inl 30)), some (.inl la), some (.inl ln), some (.inl (s59 3049)), some (.inl r113), none, none], [.inl la, .inl 4, .inr (.inl 30)], n, D, s112, p, c)) rfl ?_
            refine tt_cl (by omega) rfl (k_fail (Zi := Zi) (D := D) (s := s112) (p := p) (c := c) (by omega) hS112 hC 4 la (by omega) (by omega)) ?_
            rintro _ _ ⟨s254, rfl, rfl, hS254, f255, k256, k257⟩
            show tt Zi d 192 (123, [some (.inr (.inl 30)), some (.inl la), some (.inl ln), some (.inl (s59 3049)), some (.inl r113), none, none], [], n, D, s254, p, c) _
            replace k256 : ((s112 3050) = 0 → (s254 3050) = 4 ∧ (s254 3051) = la) := k256
            replace k257 : ((s112 3050) ≠ 0 → (s254 3050) = (s112 3050) ∧ (s254 3051) = (s112 3051)) := k257
            have b258 : 0 ≤ (s254 3050) ∧ (s254 3050) ≤ 8 := hS254 3050
            have b259 : -1 ≤ (s254 3051) ∧ (s254 3051) ≤ 32769 := hS254 3051
            have b260 : -1 ≤ (s112 3051) ∧ (s112 3051) ≤ 32769 := hS112 3051
            have e261 : s254 3049 = (s112 3049) := (f255 3049 (by decide))
            have b262 : 0 ≤ (s254 3049) ∧ (s254 3049) ≤ 32769 := hS254 3049
            have e263 : s254 3014 = (s112 3014) := (f255 3014 (by decide))
            have b264 : 0 ≤ (s254 3014) ∧ (s254 3014) ≤ 32768 := hS254 3014
            have e265 : s254 3060 = (s112 3060) := (f255 3060 (by decide))
            have b266 : 0 ≤ (s254 3060) ∧ (s254 3060) ≤ 255 := hS254 3060
            have e267 : s254 3057 = (s112 3057) := (f255 3057 (by decide))
            have b268 : 0 ≤ (s254 3057) ∧ (s254 3057) ≤ 65535 := hS254 3057
            have e269 : s254 3058 = (s112 3058) := (f255 3058 (by decide))
            have b270 : 0 ≤ (s254 3058) ∧ (s254 3058) ≤ 65535 := hS254 3058
            refine tt_k 2 (S' := (126, [some (.inr (.inl 30)), some (.inl la), some (.inl ln), some (.inl (s59 3049)), some (.inl r113), some (.inl 0), none], [], n, D, s254, p, c)) rfl ?_
            refine k_readFrame_L126 (Zi := Zi) (D := D) (s := s254) (p := p) (c := c) hd hS254 hC  r113 (by omega) (show 1 ≤ (s254 3049) by omega) ?_ _ 0 (none) s254 c (by omega) hS254 fr_rf hC frc_rf (Int.le_refl _) (fun h => h) (show (s254 3050) = 0 → r113 ≤ 3 by omega) (Nat.lt_succ_self _)
            intro x271 x272 s273 c274 b275 hS273 f276 hC274 g277 i278 i279 i280 hx281
            show tt Zi d 192 (233, [some (.inr (.inl 30)), some (.inl la), some (.inl ln), some (.inl (s59 3049)), some (.inl r113), some (.inl x271), x272], [], n, D, s273, p, c274) _
            replace i278 : (s254 3049) ≤ (s273 3049) := i278
            replace i279 : (s254 3050) ≠ 0 → (s273 3050) ≠ 0 := i279
            replace i280 : (s273 3050) = 0 → r113 ≤ 3 := i280
            have e282 : s273 3014 = (s254 3014) := (f276 3014 (by decide))
            have b283 : 0 ≤ (s273 3014) ∧ (s273 3014) ≤ 32768 := hS273 3014
            have e284 : s273 3060 = (s254 3060) := (f276 3060 (by decide))
            have b285 : 0 ≤ (s273 3060) ∧ (s273 3060) ≤ 255 := hS273 3060
            have e286 : s273 3057 = (s254 3057) := (f276 3057 (by decide))
            have b287 : 0 ≤ (s273 3057) ∧ (s273 3057) ≤ 65535 := hS273 3057
            have e288 : s273 3058 = (s254 3058) := (f276 3058 (by decide))
            have b289 : 0 ≤ (s273 3058) ∧ (s273 3058) ≤ 65535 := hS273 3058
            refine tt_k 3 (S' := (238, [some (.inr (.inl 30)), some (.inl la), some (.inl ln), some (.inl (s59 3049)), some (.inl r113), some (.inl x271), x272], [.inl (s273 3050), .inr (.inl 30)], n, D, s273, p, c274)) rfl ?_
            have b290 : 0 ≤ (s273 3050) ∧ (s273 3050) ≤ 8 := hS273 3050
            have K292 : ∀ (j291 : Int) , (0 ≤ j291 ∧ j291 ≤ 3) → (((s273 3050) ≠ 0 ∧ j291 = 0) ∨ ((s273 3050) = 0 ∧ j291 = r113)) → tt Zi d 192 (247, [some (.inr (.inl 30)), some (.inl la), some (.inl ln), some (.inl (s59 3049)), some (.inl r113), some (.inl x271), x272], [.inl j291, .inr (.inl 30)], n, D, s273, p, c274) (fun R H => ∃ (s' : Nat → Int) (c' : Nat → Nat → Int), R = .inl none ∧ H = (n, D, s', p, c') ∧ bS s' ∧ bC D c' ∧ fr s s' [3049, 3050, 3051, 3057, 3058, 3059, 3060] ∧ frc c c' [45] ∧ (s 3049 ≤ s' 3049) ∧ (s' 3050 = 0 → (2 ≤ s' 3060 ∧ s' 3060 ≤ 16) ∧ (1 ≤ s' 3057 ∧ s' 3057 ≤ 64) ∧ (1 ≤ s' 3058 ∧ s' 3058 ≤ 64))) := by
              intro j291 b294 hj293
              refine tt_k 1 (S' := (250, [some (.inr (.inl 30)), some (.inl la), some (.inl ln), some (.inl (s59 3049)), some (.inl r113), some (.inl x271), x272], [], n, D, (us s273 3059 j291), p, c274)) rfl ?_
              exact tt_rtv rfl rfl ⟨(us s273 3059 j291), c274, rfl, rfl, (bS_us hS273 (show 0 ≤ j291 ∧ j291 ≤ 3 by omega)), hC274, (fr_us (by decide) (fr_tr (fr_tr (fr_tr (fr_us (by decide) (fr_tr (fr_tr (fr_us (by decide) (fr_tr (fr_tr (fr_us (by decide) (fr_tr (fr_tr fr_rf f3 (by decide)) f26 (by decide))) f44 (by decide)) f61 (by decide))) f79 (by decide)) f96 (by decide))) f114 (by decide)) f255 (by decide)) f276 (by decide))), (frc_tr frc_rf g277 (by decide)), by show s 3049 ≤ (s273 3049); omega, by show (s273 3050) = 0 → (2 ≤ (s273 3060) ∧ (s273 3060) ≤ 16) ∧ (1 ≤ (s273 3057) ∧ (s273 3057) ≤ 64) ∧ (1 ≤ (s273 3058) ∧ (s273 3058) ≤ 64); omega⟩
            refine tz_ne (x := (s273 3050)) rfl rfl (by omega) (fun h295 => ?_) (fun h295 => ?_)
            · show tt Zi d 192 (246, [some (.inr (.inl 30)), some (.inl la), some (.inl ln), some (.inl (s59 3049)), some (.inl r113), some (.inl x271), x272], [.inr (.inl 30)], n, D, s273, p, c274) _
              refine tt_k 1 (S' := (247, [some (.inr (.inl 30)), some (.inl la), some (.inl ln), some (.inl (s59 3049)), some (.inl r113), some (.inl x271), x272], [.inl 0, .inr (.inl 30)], n, D, s273, p, c274)) rfl ?_
              exact K292 0  (by omega) (Or.inl ⟨h295, rfl⟩)
            · show tt Zi d 192 (241, [some (.inr (.inl 30)), some (.inl la), some (.inl ln), some (.inl (s59 3049)), some (.inl r113), some (.inl x271), x272], [.inr (.inl 30)], n, D, s273, p, c274) _
              refine tt_k 2 (S' := (247, [some (.inr (.inl 30)), some (.inl la), some (.inl ln), some (.inl (s59 3049)), some (.inl r113), some (.inl x271), x272], [.inl r113, .inr (.inl 30)], n, D, s273, p, c274)) rfl ?_
              exact K292 r113  (by omega) (Or.inr (⟨h295, rfl⟩))
      · show tt Zi d 192 (88, [some (.inr (.inl 30)), some (.inl la), some (.inl ln), some (.inl (s59 3049)), some (.inl r113), none, none], [], n, D, s112, p, c) _
        refine tt_k 6 (S' := (96, [some (.inr (.inl 30)), some (.inl la), some (.inl ln), some (.inl (s59 3049)), some (.inl r113), none, none], [.inl ((s112 3049) - 1), .inl 5, .inr (.inl 30)], n, D, s112, p, c)) rfl ?_
        refine tt_cl (by omega) rfl (k_fail (Zi := Zi) (D := D) (s := s112) (p := p) (c := c) (by omega) hS112 hC 5 ((s112 3049) - 1) (by omega) (by omega)) ?_
        rintro _ _ ⟨s296, rfl, rfl, hS296, f297, k298, k299⟩
        show tt Zi d 192 (99, [some (.inr (.inl 30)), some (.inl la), some (.inl ln), some (.inl (s59 3049)), some (.inl r113), none, none], [], n, D, s296, p, c) _
        replace k298 : ((s112 3050) = 0 → (s296 3050) = 5 ∧ (s296 3051) = ((s112 3049) - 1)) := k298
        replace k299 : ((s112 3050) ≠ 0 → (s296 3050) = (s112 3050) ∧ (s296 3051) = (s112 3051)) := k299
        have b300 : 0 ≤ (s296 3050) ∧ (s296 3050) ≤ 8 := hS296 3050
        have b301 : -1 ≤ (s296 3051) ∧ (s296 3051) ≤ 32769 := hS296 3051
        have b302 : -1 ≤ (s112 3051) ∧ (s112 3051) ≤ 32769 := hS112 3051
        have e303 : s296 3049 = (s112 3049) := (f297 3049 (by decide))
        have b304 : 0 ≤ (s296 3049) ∧ (s296 3049) ≤ 32769 := hS296 3049
        have e305 : s296 3014 = (s112 3014) := (f297 3014 (by decide))
        have b306 : 0 ≤ (s296 3014) ∧ (s296 3014) ≤ 32768 := hS296 3014
        have e307 : s296 3060 = (s112 3060) := (f297 3060 (by decide))
        have b308 : 0 ≤ (s296 3060) ∧ (s296 3060) ≤ 255 := hS296 3060
        have e309 : s296 3057 = (s112 3057) := (f297 3057 (by decide))
        have b310 : 0 ≤ (s296 3057) ∧ (s296 3057) ≤ 65535 := hS296 3057
        have e311 : s296 3058 = (s112 3058) := (f297 3058 (by decide))
        have b312 : 0 ≤ (s296 3058) ∧ (s296 3058) ≤ 65535 := hS296 3058
        refine tt_k 2 (S' := (103, [some (.inr (.inl 30)), some (.inl la), some (.inl ln), some (.inl (s59 3049)), some (.inl r113), none, none], [.inl (s296 3050)], n, D, s296, p, c)) rfl ?_
        refine tz_ne (x := (s296 3050)) rfl rfl (by omega) (fun h313 => ?_) (fun h313 => ?_)
        · show tt Zi d 192 (123, [some (.inr (.inl 30)), some (.inl la), some (.inl ln), some (.inl (s59 3049)), some (.inl r113), none, none], [], n, D, s296, p, c) _
          refine tt_k 2 (S' := (126, [some (.inr (.inl 30)), some (.inl la), some (.inl ln), some (.inl (s59 3049)), some (.inl r113), some (.inl 0), none], [], n, D, s296, p, c)) rfl ?_
          refine k_readFrame_L126 (Zi := Zi) (D := D) (s := s296) (p := p) (c := c) hd hS296 hC  r113 (by omega) (show 1 ≤ (s296 3049) by omega) ?_ _ 0 (none) s296 c (by omega) hS296 fr_rf hC frc_rf (Int.le_refl _) (fun h => h) (show (s296 3050) = 0 → r113 ≤ 3 by omega) (Nat.lt_succ_self _)
          intro x314 x315 s316 c317 b318 hS316 f319 hC317 g320 i321 i322 i323 hx324
          show tt Zi d 192 (233, [some (.inr (.inl 30)), some (.inl la), some (.inl ln), some (.inl (s59 3049)), some (.inl r113), some (.inl x314), x315], [], n, D, s316, p, c317) _
          replace i321 : (s296 3049) ≤ (s316 3049) := i321
          replace i322 : (s296 3050) ≠ 0 → (s316 3050) ≠ 0 := i322
          replace i323 : (s316 3050) = 0 → r113 ≤ 3 := i323
          have e325 : s316 3014 = (s296 3014) := (f319 3014 (by decide))
          have b326 : 0 ≤ (s316 3014) ∧ (s316 3014) ≤ 32768 := hS316 3014
          have e327 : s316 3060 = (s296 3060) := (f319 3060 (by decide))
          have b328 : 0 ≤ (s316 3060) ∧ (s316 3060) ≤ 255 := hS316 3060
          have e329 : s316 3057 = (s296 3057) := (f319 3057 (by decide))
          have b330 : 0 ≤ (s316 3057) ∧ (s316 3057) ≤ 65535 := hS316 3057
          have e331 : s316 3058 = (s296 3058) := (f319 3058 (by decide))
          have b332 : 0 ≤ (s316 3058) ∧ (s316 3058) ≤ 65535 := hS316 3058
          refine tt_k 3 (S' := (238, [some (.inr (.inl 30)), some (.inl la), some (.inl ln), some (.inl (s59 3049)), some (.inl r113), some (.inl x314), x315], [.inl (s316 3050), .inr (.inl 30)], n, D, s316, p, c317)) rfl ?_
          have b333 : 0 ≤ (s316 3050) ∧ (s316 3050) ≤ 8 := hS316 3050
          have K335 : ∀ (j334 : Int) , (0 ≤ j334 ∧ j334 ≤ 255) → (((s316 3050) ≠ 0 ∧ j334 = 0) ∨ ((s316 3050) = 0 ∧ j334 = r113)) → tt Zi d 192 (247, [some (.inr (.inl 30)), some (.inl la), some (.inl ln), some (.inl (s59 3049)), some (.inl r113), some (.inl x314), x315], [.inl j334, .inr (.inl 30)], n, D, s316, p, c317) (fun R H => ∃ (s' : Nat → Int) (c' : Nat → Nat → Int), R = .inl none ∧ H = (n, D, s', p, c') ∧ bS s' ∧ bC D c' ∧ fr s s' [3049, 3050, 3051, 3057, 3058, 3059, 3060] ∧ frc c c' [45] ∧ (s 3049 ≤ s' 3049) ∧ (s' 3050 = 0 → (2 ≤ s' 3060 ∧ s' 3060 ≤ 16) ∧ (1 ≤ s' 3057 ∧ s' 3057 ≤ 64) ∧ (1 ≤ s' 3058 ∧ s' 3058 ≤ 64))) := by
            intro j334 b337 hj336
            refine tt_k 1 (S' := (250, [some (.inr (.inl 30)), some (.inl la), some (.inl ln), some (.inl (s59 3049)), some (.inl r113), some (.inl x314), x315], [], n, D, (us s316 3059 j334), p, c317)) rfl ?_
            exact tt_rtv rfl rfl ⟨(us s316 3059 j334), c317, rfl, rfl, (bS_us hS316 (show 0 ≤ j334 ∧ j334 ≤ 3 by omega)), hC317, (fr_us (by decide) (fr_tr (fr_tr (fr_tr (fr_us (by decide) (fr_tr (fr_tr (fr_us (by decide) (fr_tr (fr_tr (fr_us (by decide) (fr_tr (fr_tr fr_rf f3 (by decide)) f26 (by decide))) f44 (by decide)) f61 (by decide))) f79 (by decide)) f96 (by decide))) f114 (by decide)) f297 (by decide)) f319 (by decide))), (frc_tr frc_rf g320 (by decide)), by show s 3049 ≤ (s316 3049); omega, by show (s316 3050) = 0 → (2 ≤ (s316 3060) ∧ (s316 3060) ≤ 16) ∧ (1 ≤ (s316 3057) ∧ (s316 3057) ≤ 64) ∧ (1 ≤ (s316 3058) ∧ (s316 3058) ≤ 64); omega⟩
          refine tz_ne (x := (s316 3050)) rfl rfl (by omega) (fun h338 => ?_) (fun h338 => ?_)
          · show tt Zi d 192 (246, [some (.inr (.inl 30)), some (.inl la), some (.inl ln), some (.inl (s59 3049)), some (.inl r113), some (.inl x314), x315], [.inr (.inl 30)], n, D, s316, p, c317) _
            refine tt_k 1 (S' := (247, [some (.inr (.inl 30)), some (.inl la), some (.inl ln), some (.inl (s59 3049)), some (.inl r113), some (.inl x314), x315], [.inl 0, .inr (.inl 30)], n, D, s316, p, c317)) rfl ?_
            exact K335 0  (by omega) (Or.inl ⟨h338, rfl⟩)
          · show tt Zi d 192 (241, [some (.inr (.inl 30)), some (.inl la), some (.inl ln), some (.inl (s59 3049)), some (.inl r113), some (.inl x314), x315], [.inr (.inl 30)], n, D, s316, p, c317) _
            refine tt_k 2 (S' := (247, [some (.inr (.inl 30)), some (.inl la), some (.inl ln), some (.inl (s59 3049)), some (.inl r113), some (.inl x314), x315], [.inl r113, .inr (.inl 30)], n, D, s316, p, c317)) rfl ?_
            exact K335 r113  (by omega) (Or.inr (⟨h338, rfl⟩))
        · show tt Zi d 192 (106, [some (.inr (.inl 30)), some (.inl la), some (.inl ln), some (.inl (s59 3049)), some (.inl r113), none, none], [], n, D, s296, p, c) _
          refine tt_k 6 (S' := (114, [some (.inr (.inl 30)), some (.inl la), some (.inl ln), some (.inl (s59 3049)), some (.inl r113), none, none], [.inl (8 + (3 * r113)), .inl ln], n, D, s296, p, c)) rfl ?_
          refine tb_eq (x := ln) (y := (8 + (3 * r113))) rfl rfl (by omega) (fun h339 => ?_) (fun h339 => ?_)
          · show tt Zi d 192 (123, [some (.inr (.inl 30)), some (.inl la), some (.inl ln), some (.inl (s59 3049)), some (.inl r113), none, none], [], n, D, s296, p, c) _
            refine tt_k 2 (S' := (126, [some (.inr (.inl 30)), some (.inl la), some (.inl ln), some (.inl (s59 3049)), some (.inl r113), some (.inl 0), none], [], n, D, s296, p, c)) rfl ?_
            refine k_readFrame_L126 (Zi := Zi) (D := D) (s := s296) (p := p) (c := c) hd hS296 hC  r113 (by omega) (show 1 ≤ (s296 3049) by omega) ?_ _ 0 (none) s296 c (by omega) hS296 fr_rf hC frc_rf (Int.le_refl _) (fun h => h) (show (s296 3050) = 0 → r113 ≤ 3 by omega) (Nat.lt_succ_self _)
            intro x340 x341 s342 c343 b344 hS342 f345 hC343 g346 i347 i348 i349 hx350
            show tt Zi d 192 (233, [some (.inr (.inl 30)), some (.inl la), some (.inl ln), some (.inl (s59 3049)), some (.inl r113), some (.inl x340), x341], [], n, D, s342, p, c343) _
            replace i347 : (s296 3049) ≤ (s342 3049) := i347
            replace i348 : (s296 3050) ≠ 0 → (s342 3050) ≠ 0 := i348
            replace i349 : (s342 3050) = 0 → r113 ≤ 3 := i349
            have e351 : s342 3014 = (s296 3014) := (f345 3014 (by decide))
            have b352 : 0 ≤ (s342 3014) ∧ (s342 3014) ≤ 32768 := hS342 3014
            have e353 : s342 3060 = (s296 3060) := (f345 3060 (by decide))
            have b354 : 0 ≤ (s342 3060) ∧ (s342 3060) ≤ 255 := hS342 3060
            have e355 : s342 3057 = (s296 3057) := (f345 3057 (by decide))
            have b356 : 0 ≤ (s342 3057) ∧ (s342 3057) ≤ 65535 := hS342 3057
            have e357 : s342 3058 = (s296 3058) := (f345 3058 (by decide))
            have b358 : 0 ≤ (s342 3058) ∧ (s342 3058) ≤ 65535 := hS342 3058
            refine tt_k 3 (S' := (238, [some (.inr (.inl 30)), some (.inl la), some (.inl ln), some (.inl (s59 3049)), some (.inl r113), some (.inl x340), x341], [.inl (s342 3050), .inr (.inl 30)], n, D, s342, p, c343)) rfl ?_
            have b359 : 0 ≤ (s342 3050) ∧ (s342 3050) ≤ 8 := hS342 3050
            have K361 : ∀ (j360 : Int) , (0 ≤ j360 ∧ j360 ≤ 255) → (((s342 3050) ≠ 0 ∧ j360 = 0) ∨ ((s342 3050) = 0 ∧ j360 = r113)) → tt Zi d 192 (247, [some (.inr (.inl 30)), some (.inl la), some (.inl ln), some (.inl (s59 3049)), some (.inl r113), some (.inl x340), x341], [.inl j360, .inr (.inl 30)], n, D, s342, p, c343) (fun R H => ∃ (s' : Nat → Int) (c' : Nat → Nat → Int), R = .inl none ∧ H = (n, D, s', p, c') ∧ bS s' ∧ bC D c' ∧ fr s s' [3049, 3050, 3051, 3057, 3058, 3059, 3060] ∧ frc c c' [45] ∧ (s 3049 ≤ s' 3049) ∧ (s' 3050 = 0 → (2 ≤ s' 3060 ∧ s' 3060 ≤ 16) ∧ (1 ≤ s' 3057 ∧ s' 3057 ≤ 64) ∧ (1 ≤ s' 3058 ∧ s' 3058 ≤ 64))) := by
              intro j360 b363 hj362
              refine tt_k 1 (S' := (250, [some (.inr (.inl 30)), some (.inl la), some (.inl ln), some (.inl (s59 3049)), some (.inl r113), some (.inl x340), x341], [], n, D, (us s342 3059 j360), p, c343)) rfl ?_
              exact tt_rtv rfl rfl ⟨(us s342 3059 j360), c343, rfl, rfl, (bS_us hS342 (show 0 ≤ j360 ∧ j360 ≤ 3 by omega)), hC343, (fr_us (by decide) (fr_tr (fr_tr (fr_tr (fr_us (by decide) (fr_tr (fr_tr (fr_us (by decide) (fr_tr (fr_tr (fr_us (by decide) (fr_tr (fr_tr fr_rf f3 (by decide)) f26 (by decide))) f44 (by decide)) f61 (by decide))) f79 (by decide)) f96 (by decide))) f114 (by decide)) f297 (by decide)) f345 (by decide))), (frc_tr frc_rf g346 (by decide)), by show s 3049 ≤ (s342 3049); omega, by show (s342 3050) = 0 → (2 ≤ (s342 3060) ∧ (s342 3060) ≤ 16) ∧ (1 ≤ (s342 3057) ∧ (s342 3057) ≤ 64) ∧ (1 ≤ (s342 3058) ∧ (s342 3058) ≤ 64); omega⟩
            refine tz_ne (x := (s342 3050)) rfl rfl (by omega) (fun h364 => ?_) (fun h364 => ?_)
            · show tt Zi d 192 (246, [some (.inr (.inl 30)), some (.inl la), some (.inl ln), some (.inl (s59 3049)), some (.inl r113), some (.inl x340), x341], [.inr (.inl 30)], n, D, s342, p, c343) _
              refine tt_k 1 (S' := (247, [some (.inr (.inl 30)), some (.inl la), some (.inl ln), some (.inl (s59 3049)), some (.inl r113), some (.inl x340), x341], [.inl 0, .inr (.inl 30)], n, D, s342, p, c343)) rfl ?_
              exact K361 0  (by omega) (Or.inl ⟨h364, rfl⟩)
            · show tt Zi d 192 (241, [some (.inr (.inl 30)), some (.inl la), some (.inl ln), some (.inl (s59 3049)), some (.inl r113), some (.inl x340), x341], [.inr (.inl 30)], n, D, s342, p, c343) _
              refine tt_k 2 (S' := (247, [some (.inr (.inl 30)), some (.inl la), some (.inl ln), some (.inl (s59 3049)), some (.inl r113), some (.inl x340), x341], [.inl r113, .inr (.inl 30)], n, D, s342, p, c343)) rfl ?_
              exact K361 r113  (by omega) (Or.inr (⟨h364, rfl⟩))
          · show tt Zi d 192 (117, [some (.inr (.inl 30)), some (.inl la), some (.inl ln), some (.inl (s59 3049)), some (.inl r113), none, none], [], n, D, s296, p, c) _
            refine tt_k 3 (S' := (120, [some (.inr (.inl 30)), some (.inl la), some (.inl ln), some (.inl (s59 3049)), some (.inl r113), none, none], [.inl la, .inl 4, .inr (.inl 30)], n, D, s296, p, c)) rfl ?_
            refine tt_cl (by omega) rfl (k_fail (Zi := Zi) (D := D) (s := s296) (p := p) (c := c) (by omega) hS296 hC 4 la (by omega) (by omega)) ?_
            rintro _ _ ⟨s365, rfl, rfl, hS365, f366, k367, k368⟩
            show tt Zi d 192 (123, [some (.inr (.inl 30)), some (.inl la), some (.inl ln), some (.inl (s59 3049)), some (.inl r113), none, none], [], n, D, s365, p, c) _
            replace k367 : ((s296 3050) = 0 → (s365 3050) = 4 ∧ (s365 3051) = la) := k367
            replace k368 : ((s296 3050) ≠ 0 → (s365 3050) = (s296 3050) ∧ (s365 3051) = (s296 3051)) := k368
            have b369 : 0 ≤ (s365 3050) ∧ (s365 3050) ≤ 8 := hS365 3050
            have b370 : -1 ≤ (s365 3051) ∧ (s365 3051) ≤ 32769 := hS365 3051
            have e371 : s365 3049 = (s296 3049) := (f366 3049 (by decide))
            have b372 : 0 ≤ (s365 3049) ∧ (s365 3049) ≤ 32769 := hS365 3049
            have e373 : s365 3014 = (s296 3014) := (f366 3014 (by decide))
            have b374 : 0 ≤ (s365 3014) ∧ (s365 3014) ≤ 32768 := hS365 3014
            have e375 : s365 3060 = (s296 3060) := (f366 3060 (by decide))
            have b376 : 0 ≤ (s365 3060) ∧ (s365 3060) ≤ 255 := hS365 3060
            have e377 : s365 3057 = (s296 3057) := (f366 3057 (by decide))
            have b378 : 0 ≤ (s365 3057) ∧ (s365 3057) ≤ 65535 := hS365 3057
            have e379 : s365 3058 = (s296 3058) := (f366 3058 (by decide))
            have b380 : 0 ≤ (s365 3058) ∧ (s365 3058) ≤ 65535 := hS365 3058
            refine tt_k 2 (S' := (126, [some (.inr (.inl 30)), some (.inl la), some (.inl ln), some (.inl (s59 3049)), some (.inl r113), some (.inl 0), none], [], n, D, s365, p, c)) rfl ?_
            refine k_readFrame_L126 (Zi := Zi) (D := D) (s := s365) (p := p) (c := c) hd hS365 hC  r113 (by omega) (show 1 ≤ (s365 3049) by omega) ?_ _ 0 (none) s365 c (by omega) hS365 fr_rf hC frc_rf (Int.le_refl _) (fun h => h) (show (s365 3050) = 0 → r113 ≤ 3 by omega) (Nat.lt_succ_self _)
            intro x381 x382 s383 c384 b385 hS383 f386 hC384 g387 i388 i389 i390 hx391
            show tt Zi d 192 (233, [some (.inr (.inl 30)), some (.inl la), some (.inl ln), some (.inl (s59 3049)), some (.inl r113), some (.inl x381), x382], [], n, D, s383, p, c384) _
            replace i388 : (s365 3049) ≤ (s383 3049) := i388
            replace i389 : (s365 3050) ≠ 0 → (s383 3050) ≠ 0 := i389
            replace i390 : (s383 3050) = 0 → r113 ≤ 3 := i390
            have e392 : s383 3014 = (s365 3014) := (f386 3014 (by decide))
            have b393 : 0 ≤ (s383 3014) ∧ (s383 3014) ≤ 32768 := hS383 3014
            have e394 : s383 3060 = (s365 3060) := (f386 3060 (by decide))
            have b395 : 0 ≤ (s383 3060) ∧ (s383 3060) ≤ 255 := hS383 3060
            have e396 : s383 3057 = (s365 3057) := (f386 3057 (by decide))
            have b397 : 0 ≤ (s383 3057) ∧ (s383 3057) ≤ 65535 := hS383 3057
            have e398 : s383 3058 = (s365 3058) := (f386 3058 (by decide))
            have b399 : 0 ≤ (s383 3058) ∧ (s383 3058) ≤ 65535 := hS383 3058
            refine tt_k 3 (S' := (238, [some (.inr (.inl 30)), some (.inl la), some (.inl ln), some (.inl (s59 3049)), some (.inl r113), some (.inl x381), x382], [.inl (s383 3050), .inr (.inl 30)], n, D, s383, p, c384)) rfl ?_
            have b400 : 0 ≤ (s383 3050) ∧ (s383 3050) ≤ 8 := hS383 3050
            have K402 : ∀ (j401 : Int) , (0 ≤ j401 ∧ j401 ≤ 255) → (((s383 3050) ≠ 0 ∧ j401 = 0) ∨ ((s383 3050) = 0 ∧ j401 = r113)) → tt Zi d 192 (247, [some (.inr (.inl 30)), some (.inl la), some (.inl ln), some (.inl (s59 3049)), some (.inl r113), some (.inl x381), x382], [.inl j401, .inr (.inl 30)], n, D, s383, p, c384) (fun R H => ∃ (s' : Nat → Int) (c' : Nat → Nat → Int), R = .inl none ∧ H = (n, D, s', p, c') ∧ bS s' ∧ bC D c' ∧ fr s s' [3049, 3050, 3051, 3057, 3058, 3059, 3060] ∧ frc c c' [45] ∧ (s 3049 ≤ s' 3049) ∧ (s' 3050 = 0 → (2 ≤ s' 3060 ∧ s' 3060 ≤ 16) ∧ (1 ≤ s' 3057 ∧ s' 3057 ≤ 64) ∧ (1 ≤ s' 3058 ∧ s' 3058 ≤ 64))) := by
              intro j401 b404 hj403
              refine tt_k 1 (S' := (250, [some (.inr (.inl 30)), some (.inl la), some (.inl ln), some (.inl (s59 3049)), some (.inl r113), some (.inl x381), x382], [], n, D, (us s383 3059 j401), p, c384)) rfl ?_
              exact tt_rtv rfl rfl ⟨(us s383 3059 j401), c384, rfl, rfl, (bS_us hS383 (show 0 ≤ j401 ∧ j401 ≤ 3 by omega)), hC384, (fr_us (by decide) (fr_tr (fr_tr (fr_tr (fr_tr (fr_us (by decide) (fr_tr (fr_tr (fr_us (by decide) (fr_tr (fr_tr (fr_us (by decide) (fr_tr (fr_tr fr_rf f3 (by decide)) f26 (by decide))) f44 (by decide)) f61 (by decide))) f79 (by decide)) f96 (by decide))) f114 (by decide)) f297 (by decide)) f366 (by decide)) f386 (by decide))), (frc_tr frc_rf g387 (by decide)), by show s 3049 ≤ (s383 3049); omega, by show (s383 3050) = 0 → (2 ≤ (s383 3060) ∧ (s383 3060) ≤ 16) ∧ (1 ≤ (s383 3057) ∧ (s383 3057) ≤ 64) ∧ (1 ≤ (s383 3058) ∧ (s383 3058) ≤ 64); omega⟩
            refine tz_ne (x := (s383 3050)) rfl rfl (by omega) (fun h405 => ?_) (fun h405 => ?_)
            · show tt Zi d 192 (246, [some (.inr (.inl 30)), some (.inl la), some (.inl ln), some (.inl (s59 3049)), some (.inl r113), some (.inl x381), x382], [.inr (.inl 30)], n, D, s383, p, c384) _
              refine tt_k 1 (S' := (247, [some (.inr (.inl 30)), some (.inl la), some (.inl ln), some (.inl (s59 3049)), some (.inl r113), some (.inl x381), x382], [.inl 0, .inr (.inl 30)], n, D, s383, p, c384)) rfl ?_
              exact K402 0  (by omega) (Or.inl ⟨h405, rfl⟩)
            · show tt Zi d 192 (241, [some (.inr (.inl 30)), some (.inl la), some (.inl ln), some (.inl (s59 3049)), some (.inl r113), some (.inl x381), x382], [.inr (.inl 30)], n, D, s383, p, c384) _
              refine tt_k 2 (S' := (247, [some (.inr (.inl 30)), some (.inl la), some (.inl ln), some (.inl (s59 3049)), some (.inl r113), some (.inl x381), x382], [.inl r113, .inr (.inl 30)], n, D, s383, p, c384)) rfl ?_
              exact K402 r113  (by omega) (Or.inr (⟨h405, rfl⟩))
set_option maxRecDepth 100000 in
set_option maxHeartbeats 4000000 in
theorem k_readScan {Zi : Nat → Option (Nat × (Nat → Int))} {d n : Nat} {D : Nat → Nat × Nat} {s : Nat → Int} {p : Nat → Nat} {c : Nat → Nat → Int} (hd : 8 ≤ d) (hS : bS s) (hC : bC D c) (hp0 : s 3050 = 0) (hp1 : (2 ≤ s 3060 ∧ s 3060 ≤ 16) ∧ (1 ≤ s 3057 ∧ s 3057 ≤ 64) ∧ (1 ≤ s 3058 ∧ s 3058 ≤ 64)) (hp2 : s 3061 < s 3059) : tt Zi d 196 (0, [some (.inr (.inl 30)), none, none], [], n, D, s, p, c) (fun R H => ∃ (s' : Nat → Int) (c' : Nat → Nat → Int), R = .inl none ∧ H = (n, D, s', p, c') ∧ bS s' ∧ bC D c' ∧ fr s s' [3017, 3018, 3019, 3020, 3021, 3022, 3023, 3024, 3025, 3026, 3035, 3036, 3037, 3038, 3039, 3041, 3042, 3043, 3044, 3045, 3046, 3049, 3050, 3051, 3052, 3053, 3054, 3061] ∧ frc c c' [36, 37, 38, 39, 40, 41, 42, 43, 44] ∧ (s 3049 ≤ s' 3049) ∧ (s' 3061 ≤ s 3061 + 1)) := by
  have b1 : 0 ≤ (s 3059) ∧ (s 3059) ≤ 3 := hS 3059
  refine tt_k 2 (S' := (2, [some (.inr (.inl 30)), none, none], [.inl 1, .inr (.inl 30)], n, D, s, p, c)) rfl ?_
  refine tt_cl (by omega) rfl (k_want (Zi := Zi) (D := D) (s := s) (p := p) (c := c) (by omega) hS hC 1 (by omega)) ?_
  rintro _ _ ⟨s2, rfl, rfl, hS2, f3, k4, k5, k6⟩
  show tt Zi d 196 (5, [some (.inr (.inl 30)), none, none], [], n, D, s2, p, c) _
  replace k4 : (s 3049) ≤ (s2 3049) := k4
  replace k5 : (s 3050) ≠ 0 → (s2 3050) ≠ 0 := k5
  replace k6 : (s2 3050) = 0 → (s2 3049) ≤ (s 3014) := k6
  have b7 : 0 ≤ (s 3049) ∧ (s 3049) ≤ 32769 := hS 3049
  have b8 : 0 ≤ (s2 3049) ∧ (s2 3049) ≤ 32769 := hS2 3049
  have b9 : 0 ≤ (s 3050) ∧ (s 3050) ≤ 8 := hS 3050
  have b10 : 0 ≤ (s2 3050) ∧ (s2 3050) ≤ 8 := hS2 3050
  have b11 : 0 ≤ (s 3014) ∧ (s 3014) ≤ 32768 := hS 3014
  have e12 : s2 3014 = (s 3014) := (f3 3014 (by decide))
  have b13 : 0 ≤ (s2 3014) ∧ (s2 3014) ≤ 32768 := hS2 3014
  have e14 : s2 3061 = (s 3061) := (f3 3061 (by decide))
  have b15 : 0 ≤ (s2 3061) ∧ (s2 3061) ≤ 3 := hS2 3061
  have b16 : 0 ≤ (s 3061) ∧ (s 3061) ≤ 3 := hS 3061
  have e17 : s2 3060 = (s 3060) := (f3 3060 (by decide))
  have b18 : 0 ≤ (s2 3060) ∧ (s2 3060) ≤ 255 := hS2 3060
  have b19 : 0 ≤ (s 3060) ∧ (s 3060) ≤ 255 := hS 3060
  have e20 : s2 3057 = (s 3057) := (f3 3057 (by decide))
  have b21 : 0 ≤ (s2 3057) ∧ (s2 3057) ≤ 65535 := hS2 3057
  have b22 : 0 ≤ (s 3057) ∧ (s 3057) ≤ 65535 := hS 3057
  have e23 : s2 3058 = (s 3058) := (f3 3058 (by decide))
  have b24 : 0 ≤ (s2 3058) ∧ (s2 3058) ≤ 65535 := hS2 3058
  have b25 : 0 ≤ (s 3058) ∧ (s 3058) ≤ 65535 := hS 3058
  refine tt_k 2 (S' := (9, [some (.inr (.inl 30)), none, none], [.inl (s2 3050)], n, D, s2, p, c)) rfl ?_
  refine tz_ne (x := (s2 3050)) rfl rfl (by omega) (fun h26 => ?_) (fun h26 => ?_)
  · show tt Zi d 196 (25, [some (.inr (.inl 30)), none, none], [], n, D, s2, p, c) _
    refine tt_k 2 (S' := (29, [some (.inr (.inl 30)), none, none], [.inl (s2 3050)], n, D, s2, p, c)) rfl ?_
    refine tz_ne (x := (s2 3050)) rfl rfl (by omega) (fun h27 => ?_) (fun h27 => ?_)
    · show tt Zi d 196 (37, [some (.inr (.inl 30)), none, none], [], n, D, s2, p, c) _
      refine tt_k 5 (S' := (46, [some (.inr (.inl 30)), some (.inl (s2 3049)), none], [.inl (s2 3050)], n, D, s2, p, c)) rfl ?_
      refine tz_ne (x := (s2 3050)) rfl rfl (by omega) (fun h28 => ?_) (fun h28 => ?_)
      · show tt Zi d 196 (56, [some (.inr (.inl 30)), some (.inl (s2 3049)), none], [], n, D, s2, p, c) _
        refine tt_k 4 (S' := (62, [some (.inr (.inl 30)), some (.inl (s2 3049)), some (.inl 0)], [.inl (s2 3050)], n, D, s2, p, c)) rfl ?_
        refine tz_ne (x := (s2 3050)) rfl rfl (by omega) (fun h29 => ?_) (fun h29 => ?_)
        · show tt Zi d 196 (70, [some (.inr (.inl 30)), some (.inl (s2 3049)), some (.inl 0)], [], n, D, s2, p, c) _
          refine tt_k 2 (S' := (74, [some (.inr (.inl 30)), some (.inl (s2 3049)), some (.inl 0)], [.inl (s2 3050)], n, D, s2, p, c)) rfl ?_
          refine tz_ne (x := (s2 3050)) rfl rfl (by omega) (fun h30 => ?_) (fun h30 => ?_)
          · show tt Zi d 196 (82, [some (.inr (.inl 30)), some (.inl (s2 3049)), some (.inl 0)], [], n, D, s2, p, c) _
            refine tt_k 2 (S' := (86, [some (.inr (.inl 30)), some (.inl (s2 3049)), some (.inl 0)], [.inl (s2 3050)], n, D, s2, p, c)) rfl ?_
            refine tz_ne (x := (s2 3050)) rfl rfl (by omega) (fun h31 => ?_) (fun h31 => ?_)
            · show tt Zi d 196 (112, [some (.inr (.inl 30)), some (.inl (s2 3049)), some (.inl 0)], [], n, D, s2, p, c) _
              refine tt_k 2 (S' := (116, [some (.inr (.inl 30)), some (.inl (s2 3049)), some (.inl 0)], [.inl (s2 3050)], n, D, s2, p, c)) rfl ?_
              refine tz_le (x := (s2 3050)) rfl rfl (by omega) (fun h32 => ?_) (fun h32 => ?_)
              · exfalso; omega
              · show tt Zi d 196 (119, [some (.inr (.inl 30)), some (.inl (s2 3049)), some (.inl 0)], [], n, D, s2, p, c) _
                exact tt_rtv rfl rfl ⟨s2, c, rfl, rfl, hS2, hC, (fr_tr fr_rf f3 (by decide)), frc_rf, by show s 3049 ≤ (s2 3049); omega, by show (s2 3061) ≤ s 3061 + 1; omega⟩
            · exfalso; omega
          · exfalso; omega
        · exfalso; omega
      · exfalso; omega
    · exfalso; omega
  · show tt Zi d 196 (12, [some (.inr (.inl 30)), none, none], [], n, D, s2, p, c) _
    refine tt_k 5 (S' := (21, [some (.inr (.inl 30)), none, none], [.inl (s2 3061), .inr (.inl 45), .inr (.inl 30)], n, D, s2, p, c)) rfl ?_
    refine tt_ildv (i := (s2 3061)) (v := (c 45 ((s2 3061)).toNat)) rfl rfl (by omega) rfl ?_
    show tt Zi d 196 (22, [some (.inr (.inl 30)), none, none], [.inl ((c 45 ((s2 3061)).toNat)), .inr (.inl 30)], n, D, s2, p, c) _
    have b33 : -2147483648 ≤ (c 45 ((s2 3061)).toNat) ∧ (c 45 ((s2 3061)).toNat) ≤ 2147483647 := hC 45 _
    refine tt_cl (by omega) rfl (k_want (Zi := Zi) (D := D) (s := s2) (p := p) (c := c) (by omega) hS2 hC ((c 45 ((s2 3061)).toNat)) (by omega)) ?_
    rintro _ _ ⟨s34, rfl, rfl, hS34, f35, k36, k37, k38⟩
    show tt Zi d 196 (25, [some (.inr (.inl 30)), none, none], [], n, D, s34, p, c) _
    replace k36 : (s2 3049) ≤ (s34 3049) := k36
    replace k37 : (s2 3050) ≠ 0 → (s34 3050) ≠ 0 := k37
    replace k38 : (s34 3050) = 0 → (s34 3049) ≤ (s2 3014) := k38
    have b39 : 0 ≤ (s34 3049) ∧ (s34 3049) ≤ 32769 := hS34 3049
    have b40 : 0 ≤ (s34 3050) ∧ (s34 3050) ≤ 8 := hS34 3050
    have e41 : s34 3014 = (s2 3014) := (f35 3014 (by decide))
    have b42 : 0 ≤ (s34 3014) ∧ (s34 3014) ≤ 32768 := hS34 3014
    have e43 : s34 3061 = (s2 3061) := (f35 3061 (by decide))
    have b44 : 0 ≤ (s34 3061) ∧ (s34 3061) ≤ 3 := hS34 3061
    have e45 : s34 3060 = (s2 3060) := (f35 3060 (by decide))
    have b46 : 0 ≤ (s34 3060) ∧ (s34 3060) ≤ 255 := hS34 3060
    have e47 : s34 3057 = (s2 3057) := (f35 3057 (by decide))
    have b48 : 0 ≤ (s34 3057) ∧ (s34 3057) ≤ 65535 := hS34 3057
    have e49 : s34 3058 = (s2 3058) := (f35 3058 (by decide))
    have b50 : 0 ≤ (s34 3058) ∧ (s34 3058) ≤ 65535 := hS34 3058
    refine tt_k 2 (S' := (29, [some (.inr (.inl 30)), none, none], [.inl (s34 3050)], n, D, s34, p, c)) rfl ?_
    refine tz_ne (x := (s34 3050)) rfl rfl (by omega) (fun h51 => ?_) (fun h51 => ?_)
    · show tt Zi d 196 (37, [some (.inr (.inl 30)), none, none], [], n, D, s34, p, c) _
      refine tt_k 5 (S' := (46, [some (.inr (.inl 30)), some (.inl (s34 3049)), none], [.inl (s34 3050)], n, D, s34, p, c)) rfl ?_
      refine tz_ne (x := (s34 3050)) rfl rfl (by omega) (fun h52 => ?_) (fun h52 => ?_)
      · show tt Zi d 196 (56, [some (.inr (.inl 30)), some (.inl (s34 3049)), none], [], n, D, s34, p, c) _
        refine tt_k 4 (S' := (62, [some (.inr (.inl 30)), some (.inl (s34 3049)), some (.inl 0)], [.inl (s34 3050)], n, D, s34, p, c)) rfl ?_
        refine tz_ne (x := (s34 3050)) rfl rfl (by omega) (fun h53 => ?_) (fun h53 => ?_)
        · show tt Zi d 196 (70, [some (.inr (.inl 30)), some (.inl (s34 3049)), some (.inl 0)], [], n, D, s34, p, c) _
          refine tt_k 2 (S' := (74, [some (.inr (.inl 30)), some (.inl (s34 3049)), some (.inl 0)], [.inl (s34 3050)], n, D, s34, p, c)) rfl ?_
          refine tz_ne (x := (s34 3050)) rfl rfl (by omega) (fun h54 => ?_) (fun h54 => ?_)
          · show tt Zi d 196 (82, [some (.inr (.inl 30)), some (.inl (s34 3049)), some (.inl 0)], [], n, D, s34, p, c) _
            refine tt_k 2 (S' := (86, [some (.inr (.inl 30)), some (.inl (s34 3049)), some (.inl 0)], [.inl (s34 3050)], n, D, s34, p, c)) rfl ?_
            refine tz_ne (x := (s34 3050)) rfl rfl (by omega) (fun h55 => ?_) (fun h55 => ?_)
            · show tt Zi d 196 (112, [some (.inr (.inl 30)), some (.inl (s34 3049)), some (.inl 0)], [], n, D, s34, p, c) _
              refine tt_k 2 (S' := (116, [some (.inr (.inl 30)), some (.inl (s34 3049)), some (.inl 0)], [.inl (s34 3050)], n, D, s34, p, c)) rfl ?_
              refine tz_le (x := (s34 3050)) rfl rfl (by omega) (fun h56 => ?_) (fun h56 => ?_)
              · exfalso; omega
              · show tt Zi d 196 (119, [some (.inr (.inl 30)), some (.inl (s34 3049)), some (.inl 0)], [], n, D, s34, p, c) _
                exact tt_rtv rfl rfl ⟨s34, c, rfl, rfl, hS34, hC, (fr_tr (fr_tr fr_rf f3 (by decide)) f35 (by decide)), frc_rf, by show s 3049 ≤ (s34 3049); omega, by show (s34 3061) ≤ s 3061 + 1; omega⟩
            · exfalso; omega
          · exfalso; omega
        · exfalso; omega
      · exfalso; omega
    · show tt Zi d 196 (32, [some (.inr (.inl 30)), none, none], [], n, D, s34, p, c) _
      refine tt_k 2 (S' := (34, [some (.inr (.inl 30)), none, none], [.inl 0, .inr (.inl 30)], n, D, s34, p, c)) rfl ?_
      refine tt_cl (by omega) rfl (k_want (Zi := Zi) (D := D) (s := s34) (p := p) (c := c) (by omega) hS34 hC 0 (by omega)) ?_
      rintro _ _ ⟨s57, rfl, rfl, hS57, f58, k59, k60, k61⟩
      show tt Zi d 196 (37, [some (.inr (.inl 30)), none, none], [], n, D, s57, p, c) _
      replace k59 : (s34 3049) ≤ (s57 3049) := k59
      replace k60 : (s34 3050) ≠ 0 → (s57 3050) ≠ 0 := k60
      replace k61 : (s57 3050) = 0 → (s57 3049) ≤ (s34 3014) := k61
      have b62 : 0 ≤ (s57 3049) ∧ (s57 3049) ≤ 32769 := hS57 3049
      have b63 : 0 ≤ (s57 3050) ∧ (s57 3050) ≤ 8 := hS57 3050
      have e64 : s57 3014 = (s34 3014) := (f58 3014 (by decide))
      have b65 : 0 ≤ (s57 3014) ∧ (s57 3014) ≤ 32768 := hS57 3014
      have e66 : s57 3061 = (s34 3061) := (f58 3061 (by decide))
      have b67 : 0 ≤ (s57 3061) ∧ (s57 3061) ≤ 3 := hS57 3061
      have e68 : s57 3060 = (s34 3060) := (f58 3060 (by decide))
      have b69 : 0 ≤ (s57 3060) ∧ (s57 3060) ≤ 255 := hS57 3060
      have e70 : s57 3057 = (s34 3057) := (f58 3057 (by decide))
      have b71 : 0 ≤ (s57 3057) ∧ (s57 3057) ≤ 65535 := hS57 3057
      have e72 : s57 3058 = (s34 3058) := (f58 3058 (by decide))
      have b73 : 0 ≤ (s57 3058) ∧ (s57 3058) ≤ 65535 := hS57 3058
      refine tt_k 5 (S' := (46, [some (.inr (.inl 30)), some (.inl (s57 3049)), none], [.inl (s57 3050)], n, D, s57, p, c)) rfl ?_
      refine tz_ne (x := (s57 3050)) rfl rfl (by omega) (fun h74 => ?_) (fun h74 => ?_)
      · show tt Zi d 196 (56, [some (.inr (.inl 30)), some (.inl (s57 3049)), none], [], n, D, s57, p, c) _
        refine tt_k 4 (S' := (62, [some (.inr (.inl 30)), some (.inl (s57 3049)), some (.inl 0)], [.inl (s57 3050)], n, D, s57, p, c)) rfl ?_
        refine tz_ne (x := (s57 3050)) rfl rfl (by omega) (fun h75 => ?_) (fun h75 => ?_)
        · show tt Zi d 196 (70, [some (.inr (.inl 30)), some (.inl (s57 3049)), some (.inl 0)], [], n, D, s57, p, c) _
          refine tt_k 2 (S' := (74, [some (.inr (.inl 30)), some (.inl (s57 3049)), some (.inl 0)], [.inl (s57 3050)], n, D, s57, p, c)) rfl ?_
          refine tz_ne (x := (s57 3050)) rfl rfl (by omega) (fun h76 => ?_) (fun h76 => ?_)
          · show tt Zi d 196 (82, [some (.inr (.inl 30)), some (.inl (s57 3049)), some (.inl 0)], [], n, D, s57, p, c) _
            refine tt_k 2 (S' := (86, [some (.inr (.inl 30)), some (.inl (s57 3049)), some (.inl 0)], [.inl (s57 3050)], n, D, s57, p, c)) rfl ?_
            refine tz_ne (x := (s57 3050)) rfl rfl (by omega) (fun h77 => ?_) (fun h77 => ?_)
            · show tt Zi d 196 (112, [some (.inr (.inl 30)), some (.inl (s57 3049)), some (.inl 0)], [], n, D, s57, p, c) _
              refine tt_k 2 (S' := (116, [some (.inr (.inl 30)), some (.inl (s57 3049)), some (.inl 0)], [.inl (s57 3050)], n, D, s57, p, c)) rfl ?_
              refine tz_le (x := (s57 3050)) rfl rfl (by omega) (fun h78 => ?_) (fun h78 => ?_)
              · exfalso; omega
              · show tt Zi d 196 (119, [some (.inr (.inl 30)), some (.inl (s57 3049)), some (.inl 0)], [], n, D, s57, p, c) _
                exact tt_rtv rfl rfl ⟨s57, c, rfl, rfl, hS57, hC, (fr_tr (fr_tr (fr_tr fr_rf f3 (by decide)) f35 (by decide)) f58 (by decide)), frc_rf, by show s 3049 ≤ (s57 3049); omega, by show (s57 3061) ≤ s 3061 + 1; omega⟩
            · exfalso; omega
          · exfalso; omega
        · exfalso; omega
      · show tt Zi d 196 (49, [some (.inr (.inl 30)), some (.inl (s57 3049)), none], [], n, D, s57, p, c) _
        refine tt_k 1 (S' := (50, [some (.inr (.inl 30)), some (.inl (s57 3049)), none], [.inr (.inl 30)], n, D, s57, p, c)) rfl ?_
        refine tt_cl (by omega) rfl (k_nextByte (Zi := Zi) (D := D) (s := s57) (p := p) (c := c) (by omega) hS57 hC ) ?_
        rintro _ _ ⟨s79, r80, rfl, rfl, hS79, f81, b82, k83, k84, k85⟩
        show tt Zi d 196 (53, [some (.inr (.inl 30)), some (.inl (s57 3049)), none], [.inl r80], n, D, s79, p, c) _
        replace k83 : (s79 3050) = 0 → (s79 3049) = (s57 3049) + 1 ∧ (s79 3049) ≤ (s57 3014) := k83
        replace k84 : (s57 3049) ≤ (s79 3049) := k84
        replace k85 : (s57 3050) ≠ 0 → (s79 3050) ≠ 0 := k85
        have b86 : 0 ≤ (s79 3050) ∧ (s79 3050) ≤ 8 := hS79 3050
        have b87 : 0 ≤ (s79 3049) ∧ (s79 3049) ≤ 32769 := hS79 3049
        have e88 : s79 3014 = (s57 3014) := (f81 3014 (by decide))
        have b89 : 0 ≤ (s79 3014) ∧ (s79 3014) ≤ 32768 := hS79 3014
        have e90 : s79 3061 = (s57 3061) := (f81 3061 (by decide))
        have b91 : 0 ≤ (s79 3061) ∧ (s79 3061) ≤ 3 := hS79 3061
        have e92 : s79 3060 = (s57 3060) := (f81 3060 (by decide))
        have b93 : 0 ≤ (s79 3060) ∧ (s79 3060) ≤ 255 := hS79 3060
        have e94 : s79 3057 = (s57 3057) := (f81 3057 (by decide))
        have b95 : 0 ≤ (s79 3057) ∧ (s79 3057) ≤ 65535 := hS79 3057
        have e96 : s79 3058 = (s57 3058) := (f81 3058 (by decide))
        have b97 : 0 ≤ (s79 3058) ∧ (s79 3058) ≤ 65535 := hS79 3058
        refine tt_k 4 (S' := (62, [some (.inr (.inl 30)), some (.inl (s57 3049)), some (.inl r80)], [.inl (s79 3050)], n, D, s79, p, c)) rfl ?_
        refine tz_ne (x := (s79 3050)) rfl rfl (by omega) (fun h98 => ?_) (fun h98 => ?_)
        · show tt Zi d 196 (70, [some (.inr (.inl 30)), some (.inl (s57 3049)), some (.inl r80)], [], n, D, s79, p, c) _
          refine tt_k 2 (S' := (74, [some (.inr (.inl 30)), some (.inl (s57 3049)), some (.inl r80)], [.inl (s79 3050)], n, D, s79, p, c)) rfl ?_
          refine tz_ne (x := (s79 3050)) rfl rfl (by omega) (fun h99 => ?_) (fun h99 => ?_)
          · show tt Zi d 196 (82, [some (.inr (.inl 30)), some (.inl (s57 3049)), some (.inl r80)], [], n, D, s79, p, c) _
            refine tt_k 2 (S' := (86, [some (.inr (.inl 30)), some (.inl (s57 3049)), some (.inl r80)], [.inl (s79 3050)], n, D, s79, p, c)) rfl ?_
            refine tz_ne (x := (s79 3050)) rfl rfl (by omega) (fun h100 => ?_) (fun h100 => ?_)
            · show tt Zi d 196 (112, [some (.inr (.inl 30)), some (.inl (s57 3049)), some (.inl r80)], [], n, D, s79, p, c) _
              refine tt_k 2 (S' := (116, [some (.inr (.inl 30)), some (.inl (s57 3049)), some (.inl r80)], [.inl (s79 3050)], n, D, s79, p, c)) rfl ?_
              refine tz_le (x := (s79 3050)) rfl rfl (by omega) (fun h101 => ?_) (fun h101 => ?_)
              · exfalso; omega
              · show tt Zi d 196 (119, [some (.inr (.inl 30)), some (.inl (s57 3049)), some (.inl r80)], [], n, D, s79, p, c) _
                exact tt_rtv rfl rfl ⟨s79, c, rfl, rfl, hS79, hC, (fr_tr (fr_tr (fr_tr (fr_tr fr_rf f3 (by decide)) f35 (by decide)) f58 (by decide)) f81 (by decide)), frc_rf, by show s 3049 ≤ (s79 3049); omega, by show (s79 3061) ≤ s 3061 + 1; omega⟩
            · exfalso; omega
          · exfalso; omega
        · show tt Zi d 196 (65, [some (.inr (.inl 30)), some (.inl (s57 3049)), some (.inl r80)], [], n, D, s79, p, c) _
          refine tt_k 2 (S' := (67, [some (.inr (.inl 30)), some (.inl (s57 3049)), some (.inl r80)], [.inl 0, .inr (.inl 30)], n, D, s79, p, c)) rfl ?_
          refine tt_cl (by omega) rfl (k_want (Zi := Zi) (D := D) (s := s79) (p := p) (c := c) (by omega) hS79 hC 0 (by omega)) ?_
          rintro _ _ ⟨s102, rfl, rfl, hS102, f103, k104, k105, k106⟩
          show tt Zi d 196 (70, [some (.inr (.inl 30)), some (.inl (s57 3049)), some (.inl r80)], [], n, D, s102, p, c) _
          replace k104 : (s79 3049) ≤ (s102 3049) := k104
          replace k105 : (s79 3050) ≠ 0 → (s102 3050) ≠ 0 := k105
          replace k106 : (s102 3050) = 0 → (s102 3049) ≤ (s79 3014) := k106
          have b107 : 0 ≤ (s102 3049) ∧ (s102 3049) ≤ 32769 := hS102 3049
          have b108 : 0 ≤ (s102 3050) ∧ (s102 3050) ≤ 8 := hS102 3050
          have e109 : s102 3014 = (s79 3014) := (f103 3014 (by decide))
          have b110 : 0 ≤ (s102 3014) ∧ (s102 3014) ≤ 32768 := hS102 3014
          have e111 : s102 3061 = (s79 3061) := (f103 3061 (by decide))
          have b112 : 0 ≤ (s102 3061) ∧ (s102 3061) ≤ 3 := hS102 3061
          have e113 : s102 3060 = (s79 3060) := (f103 3060 (by decide))
          have b114 : 0 ≤ (s102 3060) ∧ (s102 3060) ≤ 255 := hS102 3060
          have e115 : s102 3057 = (s79 3057) := (f103 3057 (by decide))
          have b116 : 0 ≤ (s102 3057) ∧ (s102 3057) ≤ 65535 := hS102 3057
          have e117 : s102 3058 = (s79 3058) := (f103 3058 (by decide))
          have b118 : 0 ≤ (s102 3058) ∧ (s102 3058) ≤ 65535 := hS102 3058
          refine tt_k 2 (S' := (74, [some (.inr (.inl 30)), some (.inl (s57 3049)), some (.inl r80)], [.inl (s102 3050)], n, D, s102, p, c)) rfl ?_
          refine tz_ne (x := (s102 3050)) rfl rfl (by omega) (fun h119 => ?_) (fun h119 => ?_)
          · show tt Zi d 196 (82, [some (.inr (.inl 30)), some (.inl (s57 3049)), some (.inl r80)], [], n, D, s102, p, c) _
            refine tt_k 2 (S' := (86, [some (.inr (.inl 30)), some (.inl (s57 3049)), some (.inl r80)], [.inl (s102 3050)], n, D, s102, p, c)) rfl ?_
            refine tz_ne (x := (s102 3050)) rfl rfl (by omega) (fun h120 => ?_) (fun h120 => ?_)
            · show tt Zi d 196 (112, [some (.inr (.inl 30)), some (.inl (s57 3049)), some (.inl r80)], [], n, D, s102, p, c) _
              refine tt_k 2 (S' := (116, [some (.inr (.inl 30)), some (.inl (s57 3049)), some (.inl r80)], [.inl (s102 3050)], n, D, s102, p, c)) rfl ?_
              refine tz_le (x := (s102 3050)) rfl rfl (by omega) (fun h121 => ?_) (fun h121 => ?_)
              · exfalso; omega
              · show tt Zi d 196 (119, [some (.inr (.inl 30)), some (.inl (s57 3049)), some (.inl r80)], [], n, D, s102, p, c) _
                exact tt_rtv rfl rfl ⟨s102, c, rfl, rfl, hS102, hC, (fr_tr (fr_tr (fr_tr (fr_tr (fr_tr fr_rf f3 (by decide)) f35 (by decide)) f58 (by decide)) f81 (by decide)) f103 (by decide)), frc_rf, by show s 3049 ≤ (s102 3049); omega, by show (s102 3061) ≤ s 3061 + 1; omega⟩
            · exfalso; omega
          · show tt Zi d 196 (77, [some (.inr (.inl 30)), some (.inl (s57 3049)), some (.inl r80)], [], n, D, s102, p, c) _
            refine tt_k 2 (S' := (79, [some (.inr (.inl 30)), some (.inl (s57 3049)), some (.inl r80)], [.inl 0, .inr (.inl 30)], n, D, s102, p, c)) rfl ?_
            refine tt_cl (by omega) rfl (k_want (Zi := Zi) (D := D) (s := s102) (p := p) (c := c) (by omega) hS102 hC 0 (by omega)) ?_
            rintro _ _ ⟨s122, rfl, rfl, hS122, f123, k124, k125, k126⟩
            show tt Zi d 196 (82, [some (.inr (.inl 30)), some (.inl (s57 3049)), some (.inl r80)], [], n, D, s122, p, c) _
            replace k124 : (s102 3049) ≤ (s122 3049) := k124
            replace k125 : (s102 3050) ≠ 0 → (s122 3050) ≠ 0 := k125
            replace k126 : (s122 3050) = 0 → (s122 3049) ≤ (s102 3014) := k126
            have b127 : 0 ≤ (s122 3049) ∧ (s122 3049) ≤ 32769 := hS122 3049
            have b128 : 0 ≤ (s122 3050) ∧ (s122 3050) ≤ 8 := hS122 3050
            have e129 : s122 3014 = (s102 3014) := (f123 3014 (by decide))
            have b130 : 0 ≤ (s122 3014) ∧ (s122 3014) ≤ 32768 := hS122 3014
            have e131 : s122 3061 = (s102 3061) := (f123 3061 (by decide))
            have b132 : 0 ≤ (s122 3061) ∧ (s122 3061) ≤ 3 := hS122 3061
            have e133 : s122 3060 = (s102 3060) := (f123 3060 (by decide))
            have b134 : 0 ≤ (s122 3060) ∧ (s122 3060) ≤ 255 := hS122 3060
            have e135 : s122 3057 = (s102 3057) := (f123 3057 (by decide))
            have b136 : 0 ≤ (s122 3057) ∧ (s122 3057) ≤ 65535 := hS122 3057
            have e137 : s122 3058 = (s102 3058) := (f123 3058 (by decide))
            have b138 : 0 ≤ (s122 3058) ∧ (s122 3058) ≤ 65535 := hS122 3058
            refine tt_k 2 (S' := (86, [some (.inr (.inl 30)), some (.inl (s57 3049)), some (.inl r80)], [.inl (s122 3050)], n, D, s122, p, c)) rfl ?_
            refine tz_ne (x := (s122 3050)) rfl rfl (by omega) (fun h139 => ?_) (fun h139 => ?_)
            · show tt Zi d 196 (112, [some (.inr (.inl 30)), some (.inl (s57 3049)), some (.inl r80)], [], n, D, s122, p, c) _
              refine tt_k 2 (S' := (116, [some (.inr (.inl 30)), some (.inl (s57 3049)), some (.inl r80)], [.inl (s122 3050)], n, D, s122, p, c)) rfl ?_
              refine tz_le (x := (s122 3050)) rfl rfl (by omega) (fun h140 => ?_) (fun h140 => ?_)
              · exfalso; omega
              · show tt Zi d 196 (119, [some (.inr (.inl 30)), some (.inl (s57 3049)), some (.inl r80)], [], n, D, s122, p, c) _
                exact tt_rtv rfl rfl ⟨s122, c, rfl, rfl, hS122, hC, (fr_tr (fr_tr (fr_tr (fr_tr (fr_tr (fr_tr fr_rf f3 (by decide)) f35 (by decide)) f58 (by decide)) f81 (by decide)) f103 (by decide)) f123 (by decide)), frc_rf, by show s 3049 ≤ (s122 3049); omega, by show (s122 3061) ≤ s 3061 + 1; omega⟩
            · show tt Zi d 196 (89, [some (.inr (.inl 30)), some (.inl (s57 3049)), some (.inl r80)], [], n, D, s122, p, c) _
              refine tt_k 6 (S' := (99, [some (.inr (.inl 30)), some (.inl (s57 3049)), some (.inl r80)], [.inl r80, .inl (s122 3060), .inr (.inl 46), .inr (.inl 30)], n, D, s122, p, c)) rfl ?_
              refine tt_cl (by omega) rfl (k_measR (Zi := Zi) (D := D) (s := s122) (p := p) (c := c) (by omega) hS122 hC (s122 3060) r80 (by omega) (by omega)) ?_
              rintro _ _ ⟨s141, r142, rfl, rfl, hS141, f143, b144, k145⟩
              show tt Zi d 196 (102, [some (.inr (.inl 30)), some (.inl (s57 3049)), some (.inl r80)], [.inl r142], n, D, s141, p, c) _
              replace k145 : r142 = 1 → mv s141 := k145
              have e146 : s141 3049 = (s122 3049) := (f143 3049 (by decide))
              have b147 : 0 ≤ (s141 3049) ∧ (s141 3049) ≤ 32769 := hS141 3049
              have e148 : s141 3014 = (s122 3014) := (f143 3014 (by decide))
              have b149 : 0 ≤ (s141 3014) ∧ (s141 3014) ≤ 32768 := hS141 3014
              have e150 : s141 3061 = (s122 3061) := (f143 3061 (by decide))
              have b151 : 0 ≤ (s141 3061) ∧ (s141 3061) ≤ 3 := hS141 3061
              have e152 : s141 3060 = (s122 3060) := (f143 3060 (by decide))
              have b153 : 0 ≤ (s141 3060) ∧ (s141 3060) ≤ 255 := hS141 3060
              have e154 : s141 3057 = (s122 3057) := (f143 3057 (by decide))
              have b155 : 0 ≤ (s141 3057) ∧ (s141 3057) ≤ 65535 := hS141 3057
              have e156 : s141 3058 = (s122 3058) := (f143 3058 (by decide))
              have b157 : 0 ≤ (s141 3058) ∧ (s141 3058) ≤ 65535 := hS141 3058
              have e158 : s141 3050 = (s122 3050) := (f143 3050 (by decide))
              have b159 : 0 ≤ (s141 3050) ∧ (s141 3050) ≤ 8 := hS141 3050
              refine tz_ne (x := r142) rfl rfl (by omega) (fun h160 => ?_) (fun h160 => ?_)
              · show tt Zi d 196 (112, [some (.inr (.inl 30)), some (.inl (s57 3049)), some (.inl r80)], [], n, D, s141, p, c) _
                refine tt_k 2 (S' := (116, [some (.inr (.inl 30)), some (.inl (s57 3049)), some (.inl r80)], [.inl (s141 3050)], n, D, s141, p, c)) rfl ?_
                refine tz_le (x := (s141 3050)) rfl rfl (by omega) (fun h161 => ?_) (fun h161 => ?_)
                · show tt Zi d 196 (120, [some (.inr (.inl 30)), some (.inl (s57 3049)), some (.inl r80)], [], n, D, s141, p, c) _
                  have hmv : mv s141 := (k145 (by omega))
                  refine tt_k 14 (S' := (146, [some (.inr (.inl 30)), some (.inl (s57 3049)), some (.inl r80)], [.inr (.inl 30), .inl 4096, .inr (.inl 30)], n, D, (us (us (us s141 3036 0) 3037 (s141 3057)) 3038 (s141 3058)), p, c)) rfl ?_
                  refine tt_k 10 (S' := (164, [some (.inr (.inl 30)), some (.inl (s57 3049)), some (.inl r80)], [.inr (.inl 30)], n, D, (us (us (us (us (us (us s141 3036 0) 3037 (s141 3057)) 3038 (s141 3058)) 3039 (4096 * (s141 3061))) 3054 0) 3052 0), p, c)) rfl ?_
                  refine tt_cl (by omega) rfl (k_planeR (Zi := Zi) (D := D) (s := (us (us (us (us (us (us s141 3036 0) 3037 (s141 3057)) 3038 (s141 3058)) 3039 (4096 * (s141 3061))) 3054 0) 3052 0)) (p := p) (c := c) (by omega) (bS_us (bS_us (bS_us (bS_us (bS_us (bS_us hS141 (show 0 ≤ 0 ∧ 0 ≤ 1 by omega)) (show 0 ≤ (s141 3057) ∧ (s141 3057) ≤ 64 by omega)) (show 0 ≤ (s141 3058) ∧ (s141 3058) ≤ 64 by omega)) (show 0 ≤ (4096 * (s141 3061)) ∧ (4096 * (s141 3061)) ≤ 8192 by omega)) (show 0 ≤ 0 ∧ 0 ≤ 8 by omega)) (show 0 ≤ 0 ∧ 0 ≤ 255 by omega)) hC (mv_us (by decide) (mv_us (by decide) (mv_us (by decide) (mv_us (by decide) (mv_us (by decide) (mv_us (by decide) hmv)))))) (show 0 = 0 ∧ (s141 3050) = 0 by omega)) ?_
                  rintro _ _ ⟨s162, c163, rfl, rfl, hS162, hC163, f164, g165, k166, k167⟩
                  have hc168 : mv s162 := mv_fr f164 (by decide) (mv_us (by decide) (mv_us (by decide) (mv_us (by decide) (mv_us (by decide) (mv_us (by decide) (mv_us (by decide) hmv))))))
                  show tt Zi d 196 (167, [some (.inr (.inl 30)), some (.inl (s57 3049)), some (.inl r80)], [], n, D, s162, p, c163) _
                  replace k166 : (s141 3049) ≤ (s162 3049) := k166
                  replace k167 : (s141 3049) ≤ 32768 → (s162 3049) ≤ 32768 := k167
                  have b169 : 0 ≤ (s162 3049) ∧ (s162 3049) ≤ 32769 := hS162 3049
                  have e170 : s162 3014 = (s141 3014) := (f164 3014 (by decide))
                  have b171 : 0 ≤ (s162 3014) ∧ (s162 3014) ≤ 32768 := hS162 3014
                  have e172 : s162 3061 = (s141 3061) := (f164 3061 (by decide))
                  have b173 : 0 ≤ (s162 3061) ∧ (s162 3061) ≤ 3 := hS162 3061
                  have e174 : s162 3060 = (s141 3060) := (f164 3060 (by decide))
                  have b175 : 0 ≤ (s162 3060) ∧ (s162 3060) ≤ 255 := hS162 3060
                  have e176 : s162 3057 = (s141 3057) := (f164 3057 (by decide))
                  have b177 : 0 ≤ (s162 3057) ∧ (s162 3057) ≤ 65535 := hS162 3057
                  have e178 : s162 3058 = (s141 3058) := (f164 3058 (by decide))
                  have b179 : 0 ≤ (s162 3058) ∧ (s162 3058) ≤ 65535 := hS162 3058
                  refine tt_k 2 (S' := (171, [some (.inr (.inl 30)), some (.inl (s57 3049)), some (.inl r80)], [.inl (s162 3050)], n, D, s162, p, c163)) rfl ?_
                  have b180 : 0 ≤ (s162 3050) ∧ (s162 3050) ≤ 8 := hS162 3050
                  refine tz_ne (x := (s162 3050)) rfl rfl (by omega) (fun h181 => ?_) (fun h181 => ?_)
                  · show tt Zi d 196 (211, [some (.inr (.inl 30)), some (.inl (s57 3049)), some (.inl r80)], [], n, D, s162, p, c163) _
                    exact tt_rtv rfl rfl ⟨s162, c163, rfl, rfl, hS162, hC163, (fr_tr (fr_us (by decide) (fr_us (by decide) (fr_us (by decide) (fr_us (by decide) (fr_us (by decide) (fr_us (by decide) (fr_tr (fr_tr (fr_tr (fr_tr (fr_tr (fr_tr (fr_tr fr_rf f3 (by decide)) f35 (by decide)) f58 (by decide)) f81 (by decide)) f103 (by decide)) f123 (by decide)) f143 (by decide)))))))) f164 (by decide)), (frc_tr frc_rf g165 (by decide)), by show s 3049 ≤ (s162 3049); omega, by show (s162 3061) ≤ s 3061 + 1; omega⟩
                  · show tt Zi d 196 (174, [some (.inr (.inl 30)), some (.inl (s57 3049)), some (.inl r80)], [], n, D, s162, p, c163) _
                    refine tt_k 4 (S' := (182, [some (.inr (.inl 30)), some (.inl (s57 3049)), some (.inl r80)], [.inl 255, .inl (s162 3052), .inr (.inl 30)], n, D, s162, p, c163)) rfl ?_
                    have b182 : 0 ≤ (s162 3052) ∧ (s162 3052) ≤ 255 := hS162 3052
                    have K184 : ∀ (j183 : Int) , (0 ≤ j183 ∧ j183 ≤ 32770) → (((s162 3052) ≠ 255 ∧ j183 = (s162 3049)) ∨ ((s162 3052) = 255 ∧ j183 = ((s162 3049) + 1))) → tt Zi d 196 (198, [some (.inr (.inl 30)), some (.inl (s57 3049)), some (.inl r80)], [.inl j183, .inr (.inl 30)], n, D, s162, p, c163) (fun R H => ∃ (s' : Nat → Int) (c' : Nat → Nat → Int), R = .inl none ∧ H = (n, D, s', p, c') ∧ bS s' ∧ bC D c' ∧ fr s s' [3017, 3018, 3019, 3020, 3021, 3022, 3023, 3024, 3025, 3026, 3035, 3036, 3037, 3038, 3039, 3041, 3042, 3043, 3044, 3045, 3046, 3049, 3050, 3051, 3052, 3053, 3054, 3061] ∧ frc c c' [36, 37, 38, 39, 40, 41, 42, 43, 44] ∧ (s 3049 ≤ s' 3049) ∧ (s' 3061 ≤ s 3061 + 1)) := by
                      intro j183 b186 hj185
                      refine tt_k 7 (S' := (211, [some (.inr (.inl 30)), some (.inl (s57 3049)), some (.inl r80)], [], n, D, (us (us s162 3049 j183) 3061 ((s162 3061) + 1)), p, c163)) rfl ?_
                      exact tt_rtv rfl rfl ⟨(us (us s162 3049 j183) 3061 ((s162 3061) + 1)), c163, rfl, rfl, (bS_us (bS_us hS162 (show 0 ≤ j183 ∧ j183 ≤ 32769 by omega)) (show 0 ≤ ((s162 3061) + 1) ∧ ((s162 3061) + 1) ≤ 3 by omega)), hC163, (fr_us (by decide) (fr_us (by decide) (fr_tr (fr_us (by decide) (fr_us (by decide) (fr_us (by decide) (fr_us (by decide) (fr_us (by decide) (fr_us (by decide) (fr_tr (fr_tr (fr_tr (fr_tr (fr_tr (fr_tr (fr_tr fr_rf f3 (by decide)) f35 (by decide)) f58 (by decide)) f81 (by decide)) f103 (by decide)) f123 (by decide)) f143 (by decide)))))))) f164 (by decide)))), (frc_tr frc_rf g165 (by decide)), by show s 3049 ≤ j183; omega, by show ((s162 3061) + 1) ≤ s 3061 + 1; omega⟩
                    refine tb_ne (x := (s162 3052)) (y := 255) rfl rfl (by omega) (fun h187 => ?_) (fun h187 => ?_)
                    · show tt Zi d 196 (194, [some (.inr (.inl 30)), some (.inl (s57 3049)), some (.inl r80)], [.inr (.inl 30)], n, D, s162, p, c163) _
                      refine tt_k 2 (S' := (198, [some (.inr (.inl 30)), some (.inl (s57 3049)), some (.inl r80)], [.inl (s162 3049), .inr (.inl 30)], n, D, s162, p, c163)) rfl ?_
                      exact K184 (s162 3049)  (by omega) (Or.inl ⟨h187, rfl⟩)
                    · show tt Zi d 196 (185, [some (.inr (.inl 30)), some (.inl (s57 3049)), some (.inl r80)], [.inr (.inl 30)], n, D, s162, p, c163) _
                      refine tt_k 5 (S' := (198, [some (.inr (.inl 30)), some (.inl (s57 3049)), some (.inl r80)], [.inl ((s162 3049) + 1), .inr (.inl 30)], n, D, s162, p, c163)) rfl ?_
                      exact K184 ((s162 3049) + 1)  (by omega) (Or.inr (⟨h187, rfl⟩))
                · show tt Zi d 196 (119, [some (.inr (.inl 30)), some (.inl (s57 3049)), some (.inl r80)], [], n, D, s141, p, c) _
                  exact tt_rtv rfl rfl ⟨s141, c, rfl, rfl, hS141, hC, (fr_tr (fr_tr (fr_tr (fr_tr (fr_tr (fr_tr (fr_tr fr_rf f3 (by decide)) f35 (by decide)) f58 (by decide)) f81 (by decide)) f103 (by decide)) f123 (by decide)) f143 (by decide)), frc_rf, by show s 3049 ≤ (s141 3049); omega, by show (s141 3061) ≤ s 3061 + 1; omega⟩
              · show tt Zi d 196 (105, [some (.inr (.inl 30)), some (.inl (s57 3049)), some (.inl r80)], [], n, D, s141, p, c) _
                refine tt_k 3 (S' := (109, [some (.inr (.inl 30)), some (.inl (s57 3049)), some (.inl r80)], [.inl (s57 3049), .inl 6, .inr (.inl 30)], n, D, s141, p, c)) rfl ?_
                refine tt_cl (by omega) rfl (k_fail (Zi := Zi) (D := D) (s := s141) (p := p) (c := c) (by omega) hS141 hC 6 (s57 3049) (by omega) (by omega)) ?_
                rintro _ _ ⟨s188, rfl, rfl, hS188, f189, k190, k191⟩
                show tt Zi d 196 (112, [some (.inr (.inl 30)), some (.inl (s57 3049)), some (.inl r80)], [], n, D, s188, p, c) _
                replace k190 : ((s141 3050) = 0 → (s188 3050) = 6 ∧ (s188 3051) = (s57 3049)) := k190
                replace k191 : ((s141 3050) ≠ 0 → (s188 3050) = (s141 3050) ∧ (s188 3051) = (s141 3051)) := k191
                have b192 : 0 ≤ (s188 3050) ∧ (s188 3050) ≤ 8 := hS188 3050
                have b193 : -1 ≤ (s188 3051) ∧ (s188 3051) ≤ 32769 := hS188 3051
                have b194 : -1 ≤ (s141 3051) ∧ (s141 3051) ≤ 32769 := hS141 3051
                have e195 : s188 3049 = (s141 3049) := (f189 3049 (by decide))
                have b196 : 0 ≤ (s188 3049) ∧ (s188 3049) ≤ 32769 := hS188 3049
                have e197 : s188 3014 = (s141 3014) := (f189 3014 (by decide))
                have b198 : 0 ≤ (s188 3014) ∧ (s188 3014) ≤ 32768 := hS188 3014
                have e199 : s188 3061 = (s141 3061) := (f189 3061 (by decide))
                have b200 : 0 ≤ (s188 3061) ∧ (s188 3061) ≤ 3 := hS188 3061
                have e201 : s188 3060 = (s141 3060) := (f189 3060 (by decide))
                have b202 : 0 ≤ (s188 3060) ∧ (s188 3060) ≤ 255 := hS188 3060
                have e203 : s188 3057 = (s141 3057) := (f189 3057 (by decide))
                have b204 : 0 ≤ (s188 3057) ∧ (s188 3057) ≤ 65535 := hS188 3057
                have e205 : s188 3058 = (s141 3058) := (f189 3058 (by decide))
                have b206 : 0 ≤ (s188 3058) ∧ (s188 3058) ≤ 65535 := hS188 3058
                refine tt_k 2 (S' := (116, [some (.inr (.inl 30)), some (.inl (s57 3049)), some (.inl r80)], [.inl (s188 3050)], n, D, s188, p, c)) rfl ?_
                refine tz_le (x := (s188 3050)) rfl rfl (by omega) (fun h207 => ?_) (fun h207 => ?_)
                · show tt Zi d 196 (120, [some (.inr (.inl 30)), some (.inl (s57 3049)), some (.inl r80)], [], n, D, s188, p, c) _
                  have hmv : mv s188 := (mv_fr f189 (by decide) (k145 (by omega)))
                  refine tt_k 14 (S' := (146, [some (.inr (.inl 30)), some (.inl (s57 3049)), some (.inl r80)], [.inr (.inl 30), .inl 4096, .inr (.inl 30)], n, D, (us (us (us s188 3036 0) 3037 (s188 3057)) 3038 (s188 3058)), p, c)) rfl ?_
                  refine tt_k 10 (S' := (164, [some (.inr (.inl 30)), some (.inl (s57 3049)), some (.inl r80)], [.inr (.inl 30)], n, D, (us (us (us (us (us (us s188 3036 0) 3037 (s188 3057)) 3038 (s188 3058)) 3039 (4096 * (s188 3061))) 3054 0) 3052 0), p, c)) rfl ?_
                  refine tt_cl (by omega) rfl (k_planeR (Zi := Zi) (D := D) (s := (us (us (us (us (us (us s188 3036 0) 3037 (s188 3057)) 3038 (s188 3058)) 3039 (4096 * (s188 3061))) 3054 0) 3052 0)) (p := p) (c := c) (by omega) (bS_us (bS_us (bS_us (bS_us (bS_us (bS_us hS188 (show 0 ≤ 0 ∧ 0 ≤ 1 by omega)) (show 0 ≤ (s188 3057) ∧ (s188 3057) ≤ 64 by omega)) (show 0 ≤ (s188 3058) ∧ (s188 3058) ≤ 64 by omega)) (show 0 ≤ (4096 * (s188 3061)) ∧ (4096 * (s188 3061)) ≤ 8192 by omega)) (show 0 ≤ 0 ∧ 0 ≤ 8 by omega)) (show 0 ≤ 0 ∧ 0 ≤ 255 by omega)) hC (mv_us (by decide) (mv_us (by decide) (mv_us (by decide) (mv_us (by decide) (mv_us (by decide) (mv_us (by decide) hmv)))))) (show 0 = 0 ∧ (s188 3050) = 0 by omega)) ?_
                  rintro _ _ ⟨s208, c209, rfl, rfl, hS208, hC209, f210, g211, k212, k213⟩
                  have hc214 : mv s208 := mv_fr f210 (by decide) (mv_us (by decide) (mv_us (by decide) (mv_us (by decide) (mv_us (by decide) (mv_us (by decide) (mv_us (by decide) hmv))))))
                  show tt Zi d 196 (167, [some (.inr (.inl 30)), some (.inl (s57 3049)), some (.inl r80)], [], n, D, s208, p, c209) _
                  replace k212 : (s188 3049) ≤ (s208 3049) := k212
                  replace k213 : (s188 3049) ≤ 32768 → (s208 3049) ≤ 32768 := k213
                  have b215 : 0 ≤ (s208 3049) ∧ (s208 3049) ≤ 32769 := hS208 3049
                  have e216 : s208 3014 = (s188 3014) := (f210 3014 (by decide))
                  have b217 : 0 ≤ (s208 3014) ∧ (s208 3014) ≤ 32768 := hS208 3014
                  have e218 : s208 3061 = (s188 3061) := (f210 3061 (by decide))
                  have b219 : 0 ≤ (s208 3061) ∧ (s208 3061) ≤ 3 := hS208 3061
                  have e220 : s208 3060 = (s188 3060) := (f210 3060 (by decide))
                  have b221 : 0 ≤ (s208 3060) ∧ (s208 3060) ≤ 255 := hS208 3060
                  have e222 : s208 3057 = (s188 3057) := (f210 3057 (by decide))
                  have b223 : 0 ≤ (s208 3057) ∧ (s208 3057) ≤ 65535 := hS208 3057
                  have e224 : s208 3058 = (s188 3058) := (f210 3058 (by decide))
                  have b225 : 0 ≤ (s208 3058) ∧ (s208 3058) ≤ 65535 := hS208 3058
                  refine tt_k 2 (S' := (171, [some (.inr (.inl 30)), some (.inl (s57 3049)), some (.inl r80)], [.inl (s208 3050)], n, D, s208, p, c209)) rfl ?_
                  have b226 : 0 ≤ (s208 3050) ∧ (s208 3050) ≤ 8 := hS208 3050
                  refine tz_ne (x := (s208 3050)) rfl rfl (by omega) (fun h227 => ?_) (fun h227 => ?_)
                  · show tt Zi d 196 (211, [some (.inr (.inl 30)), some (.inl (s57 3049)), some (.inl r80)], [], n, D, s208, p, c209) _
                    exact tt_rtv rfl rfl ⟨s208, c209, rfl, rfl, hS208, hC209, (fr_tr (fr_us (by decide) (fr_us (by decide) (fr_us (by decide) (fr_us (by decide) (fr_us (by decide) (fr_us (by decide) (fr_tr (fr_tr (fr_tr (fr_tr (fr_tr (fr_tr (fr_tr (fr_tr fr_rf f3 (by decide)) f35 (by decide)) f58 (by decide)) f81 (by decide)) f103 (by decide)) f123 (by decide)) f143 (by decide)) f189 (by decide)))))))) f210 (by decide)), (frc_tr frc_rf g211 (by decide)), by show s 3049 ≤ (s208 3049); omega, by show (s208 3061) ≤ s 3061 + 1; omega⟩
                  · show tt Zi d 196 (174, [some (.inr (.inl 30)), some (.inl (s57 3049)), some (.inl r80)], [], n, D, s208, p, c209) _
                    refine tt_k 4 (S' := (182, [some (.inr (.inl 30)), some (.inl (s57 3049)), some (.inl r80)], [.inl 255, .inl (s208 3052), .inr (.inl 30)], n, D, s208, p, c209)) rfl ?_
                    have b228 : 0 ≤ (s208 3052) ∧ (s208 3052) ≤ 255 := hS208 3052
                    have K230 : ∀ (j229 : Int) , (0 ≤ j229 ∧ j229 ≤ 32770) → (((s208 3052) ≠ 255 ∧ j229 = (s208 3049)) ∨ ((s208 3052) = 255 ∧ j229 = ((s208 3049) + 1))) → tt Zi d 196 (198, [some (.inr (.inl 30)), some (.inl (s57 3049)), some (.inl r80)], [.inl j229, .inr (.inl 30)], n, D, s208, p, c209) (fun R H => ∃ (s' : Nat → Int) (c' : Nat → Nat → Int), R = .inl none ∧ H = (n, D, s', p, c') ∧ bS s' ∧ bC D c' ∧ fr s s' [3017, 3018, 3019, 3020, 3021, 3022, 3023, 3024, 3025, 3026, 3035, 3036, 3037, 3038, 3039, 3041, 3042, 3043, 3044, 3045, 3046, 3049, 3050, 3051, 3052, 3053, 3054, 3061] ∧ frc c c' [36, 37, 38, 39, 40, 41, 42, 43, 44] ∧ (s 3049 ≤ s' 3049) ∧ (s' 3061 ≤ s 3061 + 1)) := by
                      intro j229 b232 hj231
                      refine tt_k 7 (S' := (211, [some (.inr (.inl 30)), some (.inl (s57 3049)), some (.inl r80)], [], n, D, (us (us s208 3049 j229) 3061 ((s208 3061) + 1)), p, c209)) rfl ?_
                      exact tt_rtv rfl rfl ⟨(us (us s208 3049 j229) 3061 ((s208 3061) + 1)), c209, rfl, rfl, (bS_us (bS_us hS208 (show 0 ≤ j229 ∧ j229 ≤ 32769 by omega)) (show 0 ≤ ((s208 3061) + 1) ∧ ((s208 3061) + 1) ≤ 3 by omega)), hC209, (fr_us (by decide) (fr_us (by decide) (fr_tr (fr_us (by decide) (fr_us (by decide) (fr_us (by decide) (fr_us (by decide) (fr_us (by decide) (fr_us (by decide) (fr_tr (fr_tr (fr_tr (fr_tr (fr_tr (fr_tr (fr_tr (fr_tr fr_rf f3 (by decide)) f35 (by decide)) f58 (by decide)) f81 (by decide)) f103 (by decide)) f123 (by decide)) f143 (by decide)) f189 (by decide)))))))) f210 (by decide)))), (frc_tr frc_rf g211 (by decide)), by show s 3049 ≤ j229; omega, by show ((s208 3061) + 1) ≤ s 3061 + 1; omega⟩
                    refine tb_ne (x := (s208 3052)) (y := 255) rfl rfl (by omega) (fun h233 => ?_) (fun h233 => ?_)
                    · show tt Zi d 196 (194, [some (.inr (.inl 30)), some (.inl (s57 3049)), some (.inl r80)], [.inr (.inl 30)], n, D, s208, p, c209) _
                      refine tt_k 2 (S' := (198, [some (.inr (.inl 30)), some (.inl (s57 3049)), some (.inl r80)], [.inl (s208 3049), .inr (.inl 30)], n, D, s208, p, c209)) rfl ?_
                      exact K230 (s208 3049)  (by omega) (Or.inl ⟨h233, rfl⟩)
                    · show tt Zi d 196 (185, [some (.inr (.inl 30)), some (.inl (s57 3049)), some (.inl r80)], [.inr (.inl 30)], n, D, s208, p, c209) _
                      refine tt_k 5 (S' := (198, [some (.inr (.inl 30)), some (.inl (s57 3049)), some (.inl r80)], [.inl ((s208 3049) + 1), .inr (.inl 30)], n, D, s208, p, c209)) rfl ?_
                      exact K230 ((s208 3049) + 1)  (by omega) (Or.inr (⟨h233, rfl⟩))
                · show tt Zi d 196 (119, [some (.inr (.inl 30)), some (.inl (s57 3049)), some (.inl r80)], [], n, D, s188, p, c) _
                  exact tt_rtv rfl rfl ⟨s188, c, rfl, rfl, hS188, hC, (fr_tr (fr_tr (fr_tr (fr_tr (fr_tr (fr_tr (fr_tr (fr_tr fr_rf f3 (by decide)) f35 (by decide)) f58 (by decide)) f81 (by decide)) f103 (by decide)) f123 (by decide)) f143 (by decide)) f189 (by decide)), frc_rf, by show s 3049 ≤ (s188 3049); omega, by show (s188 3061) ≤ s 3061 + 1; omega⟩
