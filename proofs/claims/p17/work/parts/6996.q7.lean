/-! the reference reads a FRAME, exactly -/
/-- what it says ahead of these but for the planes and the length -/
def oH (A : TN) (a n : Int) : Prop := n = qP A a ∧ (2 ≤ qD A a ∧ qD A a ≤ 16) ∧ (1 ≤ qH A a ∧ qH A a ≤ 64) ∧ (1 ≤ qW A a ∧ qW A a ≤ 64)
set_option maxRecDepth 100000 in
set_option maxHeartbeats 4000000 in
theorem v_readFrameL_L154 {Zi : Nat → Option (Nat × (Nat → Int))} {d n : Nat} {D : Nat → Nat × Nat} {s : Nat → Int} {p : Nat → Nat} {c : Nat → Nat → Int} {o_1 : Option mi_V} {o_2 : Option mi_V} {o_3 : Option mi_V} {Q : mi_Rs → mi_H → Prop} (hd : 3 ≤ d) (hS : bS s) (hC : bC D c) (n_ : Int) (k_ : Int) (b_n_ : 0 ≤ n_ ∧ n_ ≤ 255) (b_k_ : 0 ≤ k_ ∧ k_ ≤ 2) (hq0 : 1 ≤ s 3049)
  (hK : ∀ (i_ : Int) (s0 : Nat → Int) (b_i_ : 0 ≤ i_ ∧ i_ ≤ 3) (hS0 : bS s0) (hF0 : fr s s0 [3050, 3051]) (i0 : s0 3050 = 0 → s 3050 = 0 ∧ ∀ j : Int, 0 ≤ j → j < i_ → c 45 j.toNat ≠ c 45 k_.toNat) (i1 : s0 3050 ≠ 0 → s 3050 ≠ 0 ∨ dupN (c 45) k_) (i2 : i_ ≤ k_), (k_ ≤ i_) → tt Zi d 192 (202, [some (.inr (.inl 30)), o_1, o_2, o_3, some (.inl n_), some (.inl k_), some (.inl i_)], [], n, D, s0, p, c) Q) :
  ∀ (m : Nat) (i_ : Int) (s0 : Nat → Int) (b_i_ : 0 ≤ i_ ∧ i_ ≤ 3) (hS0 : bS s0) (hF0 : fr s s0 [3050, 3051]) (i0 : s0 3050 = 0 → s 3050 = 0 ∧ ∀ j : Int, 0 ≤ j → j < i_ → c 45 j.toNat ≠ c 45 k_.toNat) (i1 : s0 3050 ≠ 0 → s 3050 ≠ 0 ∨ dupN (c 45) k_) (i2 : i_ ≤ k_), (k_ - i_).toNat < m → tt Zi d 192 (154, [some (.inr (.inl 30)), o_1, o_2, o_3, some (.inl n_), some (.inl k_), some (.inl i_)], [], n, D, s0, p, c) Q := by
  intro m
  induction m with
  | zero => intro i_ s0 b_i_ hS0 hF0 i0 i1 i2 hm; exact absurd hm (by omega)
  | succ m ih =>
    intro i_ s0 b_i_ hS0 hF0 i0 i1 i2 hm
    have e1 : s0 3049 = s 3049 := hF0 3049 (by decide)
    have b2 : 0 ≤ (s0 3049) ∧ (s0 3049) ≤ 32769 := hS0 3049
    have b3 : 0 ≤ (s 3049) ∧ (s 3049) ≤ 32769 := hS 3049
    have e4 : s0 3014 = s 3014 := hF0 3014 (by decide)
    have b5 : 0 ≤ (s0 3014) ∧ (s0 3014) ≤ 32768 := hS0 3014
    have b6 : 0 ≤ (s 3014) ∧ (s 3014) ≤ 32768 := hS 3014
    have e7 : s0 3060 = s 3060 := hF0 3060 (by decide)
    have b8 : 0 ≤ (s0 3060) ∧ (s0 3060) ≤ 255 := hS0 3060
    have b9 : 0 ≤ (s 3060) ∧ (s 3060) ≤ 255 := hS 3060
    have e10 : s0 3057 = s 3057 := hF0 3057 (by decide)
    have b11 : 0 ≤ (s0 3057) ∧ (s0 3057) ≤ 65535 := hS0 3057
    have b12 : 0 ≤ (s 3057) ∧ (s 3057) ≤ 65535 := hS 3057
    have e13 : s0 3058 = s 3058 := hF0 3058 (by decide)
    have b14 : 0 ≤ (s0 3058) ∧ (s0 3058) ≤ 65535 := hS0 3058
    have b15 : 0 ≤ (s 3058) ∧ (s 3058) ≤ 65535 := hS 3058
    refine tt_k 2 (S' := (158, [some (.inr (.inl 30)), o_1, o_2, o_3, some (.inl n_), some (.inl k_), some (.inl i_)], [.inl k_, .inl i_], n, D, s0, p, c)) rfl ?_
    refine tb_ge (x := i_) (y := k_) rfl rfl (by omega) (fun h16 => ?_) (fun h16 => ?_)
    · show tt Zi d 192 (202, [some (.inr (.inl 30)), o_1, o_2, o_3, some (.inl n_), some (.inl k_), some (.inl i_)], [], n, D, s0, p, c) _
      exact hK i_ s0 (by omega) hS0 hF0 i0 i1 i2 (by omega)
    · show tt Zi d 192 (161, [some (.inr (.inl 30)), o_1, o_2, o_3, some (.inl n_), some (.inl k_), some (.inl i_)], [], n, D, s0, p, c) _
      refine tt_k 2 (S' := (165, [some (.inr (.inl 30)), o_1, o_2, o_3, some (.inl n_), some (.inl k_), some (.inl i_)], [.inl (s0 3050)], n, D, s0, p, c)) rfl ?_
      have b17 : 0 ≤ (s0 3050) ∧ (s0 3050) ≤ 8 := hS0 3050
      refine tz_ne (x := (s0 3050)) rfl rfl (by omega) (fun h18 => ?_) (fun h18 => ?_)
      · show tt Zi d 192 (196, [some (.inr (.inl 30)), o_1, o_2, o_3, some (.inl n_), some (.inl k_), some (.inl i_)], [], n, D, s0, p, c) _
        refine tt_k 2 (S' := (154, [some (.inr (.inl 30)), o_1, o_2, o_3, some (.inl n_), some (.inl k_), some (.inl (i_ + 1))], [], n, D, s0, p, c)) rfl ?_
        exact ih (i_ + 1) s0 (by omega) hS0 hF0 (fun hf => ⟨by have h := i0 (by omega); omega, fun j h1 h2 => if e : j = i_ then (by rw [e]; omega) else (by exact (i0 (by omega)).2 j h1 (by omega))⟩) (fun hf => if hz : s0 3050 = 0 then (by exact Or.inr ⟨i_, by omega, by omega⟩) else (by exact i1 hz)) (show (i_ + 1) ≤ k_ by omega) (show (k_ - (i_ + 1)).toNat < m by omega)
      · show tt Zi d 192 (168, [some (.inr (.inl 30)), o_1, o_2, o_3, some (.inl n_), some (.inl k_), some (.inl i_)], [], n, D, s0, p, c) _
        refine tt_k 3 (S' := (174, [some (.inr (.inl 30)), o_1, o_2, o_3, some (.inl n_), some (.inl k_), some (.inl i_)], [.inl i_, .inr (.inl 45)], n, D, s0, p, c)) rfl ?_
        refine tt_ildv (i := i_) (v := (c 45 (i_).toNat)) rfl rfl (by omega) rfl ?_
        show tt Zi d 192 (175, [some (.inr (.inl 30)), o_1, o_2, o_3, some (.inl n_), some (.inl k_), some (.inl i_)], [.inl (c 45 (i_).toNat)], n, D, s0, p, c) _
        have b19 : -2147483648 ≤ (c 45 (i_).toNat) ∧ (c 45 (i_).toNat) ≤ 2147483647 := hC 45 _
        refine tt_k 3 (S' := (181, [some (.inr (.inl 30)), o_1, o_2, o_3, some (.inl n_), some (.inl k_), some (.inl i_)], [.inl k_, .inr (.inl 45), .inl (c 45 (i_).toNat)], n, D, s0, p, c)) rfl ?_
        refine tt_ildv (i := k_) (v := (c 45 (k_).toNat)) rfl rfl (by omega) rfl ?_
        show tt Zi d 192 (182, [some (.inr (.inl 30)), o_1, o_2, o_3, some (.inl n_), some (.inl k_), some (.inl i_)], [.inl (c 45 (k_).toNat), .inl (c 45 (i_).toNat)], n, D, s0, p, c) _
        have b20 : -2147483648 ≤ (c 45 (k_).toNat) ∧ (c 45 (k_).toNat) ≤ 2147483647 := hC 45 _
        refine tb_ne (x := (c 45 (i_).toNat)) (y := (c 45 (k_).toNat)) rfl rfl (by omega) (fun h21 => ?_) (fun h21 => ?_)
        · show tt Zi d 192 (196, [some (.inr (.inl 30)), o_1, o_2, o_3, some (.inl n_), some (.inl k_), some (.inl i_)], [], n, D, s0, p, c) _
          refine tt_k 2 (S' := (154, [some (.inr (.inl 30)), o_1, o_2, o_3, some (.inl n_), some (.inl k_), some (.inl (i_ + 1))], [], n, D, s0, p, c)) rfl ?_
          exact ih (i_ + 1) s0 (by omega) hS0 hF0 (fun hf => ⟨by have h := i0 (by omega); omega, fun j h1 h2 => if e : j = i_ then (by rw [e]; omega) else (by exact (i0 (by omega)).2 j h1 (by omega))⟩) (fun hf => if hz : s0 3050 = 0 then (by exact Or.inr ⟨i_, by omega, by omega⟩) else (by exact i1 hz)) (show (i_ + 1) ≤ k_ by omega) (show (k_ - (i_ + 1)).toNat < m by omega)
        · show tt Zi d 192 (185, [some (.inr (.inl 30)), o_1, o_2, o_3, some (.inl n_), some (.inl k_), some (.inl i_)], [], n, D, s0, p, c) _
          refine tt_k 6 (S' := (193, [some (.inr (.inl 30)), o_1, o_2, o_3, some (.inl n_), some (.inl k_), some (.inl i_)], [.inl ((s0 3049) - 1), .inl 5, .inr (.inl 30)], n, D, s0, p, c)) rfl ?_
          refine tt_cl (by omega) rfl (k_fail (Zi := Zi) (D := D) (s := s0) (p := p) (c := c) (by omega) hS0 hC 5 ((s0 3049) - 1) (by omega) (by omega)) ?_
          rintro _ _ ⟨s22, rfl, rfl, hS22, f23, k24, k25⟩
          show tt Zi d 192 (196, [some (.inr (.inl 30)), o_1, o_2, o_3, some (.inl n_), some (.inl k_), some (.inl i_)], [], n, D, s22, p, c) _
          replace k24 : ((s0 3050) = 0 → (s22 3050) = 5 ∧ (s22 3051) = ((s0 3049) - 1)) := k24
          replace k25 : ((s0 3050) ≠ 0 → (s22 3050) = (s0 3050) ∧ (s22 3051) = (s0 3051)) := k25
          have b26 : 0 ≤ (s22 3050) ∧ (s22 3050) ≤ 8 := hS22 3050
          have b27 : -1 ≤ (s22 3051) ∧ (s22 3051) ≤ 32769 := hS22 3051
          have b28 : -1 ≤ (s0 3051) ∧ (s0 3051) ≤ 32769 := hS0 3051
          have e29 : s22 3049 = (s0 3049) := (f23 3049 (by decide))
          have b30 : 0 ≤ (s22 3049) ∧ (s22 3049) ≤ 32769 := hS22 3049
          have e31 : s22 3014 = (s0 3014) := (f23 3014 (by decide))
          have b32 : 0 ≤ (s22 3014) ∧ (s22 3014) ≤ 32768 := hS22 3014
          have e33 : s22 3060 = (s0 3060) := (f23 3060 (by decide))
          have b34 : 0 ≤ (s22 3060) ∧ (s22 3060) ≤ 255 := hS22 3060
          have e35 : s22 3057 = (s0 3057) := (f23 3057 (by decide))
          have b36 : 0 ≤ (s22 3057) ∧ (s22 3057) ≤ 65535 := hS22 3057
          have e37 : s22 3058 = (s0 3058) := (f23 3058 (by decide))
          have b38 : 0 ≤ (s22 3058) ∧ (s22 3058) ≤ 65535 := hS22 3058
          have hff : s22 3050 ≠ 0 := by have h := k24 (by omega); omega
          refine tt_k 2 (S' := (154, [some (.inr (.inl 30)), o_1, o_2, o_3, some (.inl n_), some (.inl k_), some (.inl (i_ + 1))], [], n, D, s22, p, c)) rfl ?_
          exact ih (i_ + 1) s22 (by omega) hS22 (fr_tr hF0 f23 (by decide)) (fun hf => ⟨by have h := i0 (by omega); omega, fun j h1 h2 => if e : j = i_ then (by rw [e]; omega) else (by exact (i0 (by omega)).2 j h1 (by omega))⟩) (fun hf => if hz : s0 3050 = 0 then (by exact Or.inr ⟨i_, by omega, by omega⟩) else (by exact i1 hz)) (show (i_ + 1) ≤ k_ by omega) (show (k_ - (i_ + 1)).toNat < m by omega)

set_option maxRecDepth 100000 in
set_option maxHeartbeats 4000000 in
theorem v_readFrameL_L126 {Zi : Nat → Option (Nat × (Nat → Int))} {d n : Nat} {D : Nat → Nat × Nat} {s : Nat → Int} {p : Nat → Nat} {c : Nat → Nat → Int} {o_2 : Option mi_V} {o_3 : Option mi_V} {Q : mi_Rs → mi_H → Prop} (hd : 3 ≤ d) (hS : bS s) (hC : bC D c) (A : TN) (la : Int) (n_ : Int) (b_la : 0 ≤ la ∧ la ≤ 32769) (b_n_ : 0 ≤ n_ ∧ n_ ≤ 255) (hq0 : tpl A (s 3014) (c 34)) (hq1 : s 3050 = 0 → oF A la n_) (hq2 : s 3050 = 0 → n_ ≤ 3)
  (hK : ∀ (k_ : Int) (o_6 : Option mi_V) (s0 : Nat → Int) (c0 : Nat → Nat → Int) (b_k_ : 0 ≤ k_ ∧ k_ ≤ 3) (hS0 : bS s0) (hF0 : fr s s0 [3049, 3050, 3051]) (hC0 : bC D c0) (hG0 : frc c c0 [45]) (i0 : s0 3050 = 0 → nmO A la k_ ∧ s0 3049 = la + 8 + 3 * k_ ∧ s0 3049 ≤ s 3014) (i1 : s0 3050 ≠ 0 → ¬ okF A la) (i2 : s0 3050 = 0 → ∀ j : Int, 0 ≤ j → j < k_ → c0 45 j.toNat = qN A la j) (i3 : la + 2 ≤ s0 3049 ∧ s 3049 ≤ s0 3049) (i4 : s0 3050 = 0 → k_ ≤ n_) (i5 : s 3050 ≠ 0 → s0 3050 ≠ 0), (s0 3050 = 0 → n_ ≤ k_) → tt Zi d 192 (233, [some (.inr (.inl 30)), some (.inl la), o_2, o_3, some (.inl n_), some (.inl k_), o_6], [], n, D, s0, p, c0) Q) :
  ∀ (m : Nat) (k_ : Int) (o_6 : Option mi_V) (s0 : Nat → Int) (c0 : Nat → Nat → Int) (b_k_ : 0 ≤ k_ ∧ k_ ≤ 3) (hS0 : bS s0) (hF0 : fr s s0 [3049, 3050, 3051]) (hC0 : bC D c0) (hG0 : frc c c0 [45]) (i0 : s0 3050 = 0 → nmO A la k_ ∧ s0 3049 = la + 8 + 3 * k_ ∧ s0 3049 ≤ s 3014) (i1 : s0 3050 ≠ 0 → ¬ okF A la) (i2 : s0 3050 = 0 → ∀ j : Int, 0 ≤ j → j < k_ → c0 45 j.toNat = qN A la j) (i3 : la + 2 ≤ s0 3049 ∧ s 3049 ≤ s0 3049) (i4 : s0 3050 = 0 → k_ ≤ n_) (i5 : s 3050 ≠ 0 → s0 3050 ≠ 0), (if s0 3050 = 0 then 4 - k_ else 0).toNat < m → tt Zi d 192 (126, [some (.inr (.inl 30)), some (.inl la), o_2, o_3, some (.inl n_), some (.inl k_), o_6], [], n, D, s0, p, c0) Q := by
  intro m
  induction m with
  | zero => intro k_ o_6 s0 c0 b_k_ hS0 hF0 hC0 hG0 i0 i1 i2 i3 i4 i5 hm; exact absurd hm (by omega)
  | succ m ih =>
    intro k_ o_6 s0 c0 b_k_ hS0 hF0 hC0 hG0 i0 i1 i2 i3 i4 i5 hm
    have e1 : s0 3014 = s 3014 := hF0 3014 (by decide)
    have b2 : 0 ≤ (s0 3014) ∧ (s0 3014) ≤ 32768 := hS0 3014
    have b3 : 0 ≤ (s 3014) ∧ (s 3014) ≤ 32768 := hS 3014
    have e4 : s0 3060 = s 3060 := hF0 3060 (by decide)
    have b5 : 0 ≤ (s0 3060) ∧ (s0 3060) ≤ 255 := hS0 3060
    have b6 : 0 ≤ (s 3060) ∧ (s 3060) ≤ 255 := hS 3060
    have e7 : s0 3057 = s 3057 := hF0 3057 (by decide)
    have b8 : 0 ≤ (s0 3057) ∧ (s0 3057) ≤ 65535 := hS0 3057
    have b9 : 0 ≤ (s 3057) ∧ (s 3057) ≤ 65535 := hS 3057
    have e10 : s0 3058 = s 3058 := hF0 3058 (by decide)
    have b11 : 0 ≤ (s0 3058) ∧ (s0 3058) ≤ 65535 := hS0 3058
    have b12 : 0 ≤ (s 3058) ∧ (s 3058) ≤ 65535 := hS 3058
    have htp : tpl A (s0 3014) (c0 34) := by rw [hF0 3014 (by decide), hG0 34 (by decide)]; exact hq0
    have hA := hq0.1
    have b13 : 0 ≤ (s0 3050) ∧ (s0 3050) ≤ 8 := hS0 3050
    have b14 : 0 ≤ (s0 3049) ∧ (s0 3049) ≤ 32769 := hS0 3049
    have b15 : 0 ≤ (s 3050) ∧ (s 3050) ≤ 8 := hS 3050
    have b16 : 0 ≤ (s 3049) ∧ (s 3049) ≤ 32769 := hS 3049
    refine tt_k 2 (S' := (130, [some (.inr (.inl 30)), some (.inl la), o_2, o_3, some (.inl n_), some (.inl k_), o_6], [.inl n_, .inl k_], n, D, s0, p, c0)) rfl ?_
    refine tb_ge (x := k_) (y := n_) rfl rfl (by omega) (fun h17 => ?_) (fun h17 => ?_)
    · show tt Zi d 192 (233, [some (.inr (.inl 30)), some (.inl la), o_2, o_3, some (.inl n_), some (.inl k_), o_6], [], n, D, s0, p, c0) _
      exact hK k_ (o_6) s0 c0 (by omega) hS0 hF0 hC0 hG0 i0 i1 i2 i3 i4 i5 (by intro hz; omega)
    · show tt Zi d 192 (133, [some (.inr (.inl 30)), some (.inl la), o_2, o_3, some (.inl n_), some (.inl k_), o_6], [], n, D, s0, p, c0) _
      refine tt_k 2 (S' := (137, [some (.inr (.inl 30)), some (.inl la), o_2, o_3, some (.inl n_), some (.inl k_), o_6], [.inl (s0 3050)], n, D, s0, p, c0)) rfl ?_
      refine tz_ne (x := (s0 3050)) rfl rfl (by omega) (fun h18 => ?_) (fun h18 => ?_)
      · show tt Zi d 192 (233, [some (.inr (.inl 30)), some (.inl la), o_2, o_3, some (.inl n_), some (.inl k_), o_6], [], n, D, s0, p, c0) _
        exact hK k_ (o_6) s0 c0 (by omega) hS0 hF0 hC0 hG0 i0 i1 i2 i3 i4 i5 (by intro hz; omega)
      · show tt Zi d 192 (140, [some (.inr (.inl 30)), some (.inl la), o_2, o_3, some (.inl n_), some (.inl k_), o_6], [], n, D, s0, p, c0) _
        have hfa0 : s0 3050 = 0 := by omega
        have hsf : s 3050 = 0 := by omega
        obtain ⟨hnm, hat, hle⟩ := i0 hfa0
        have j2_ := i2 hfa0
        have j4_ := i4 hfa0
        have hof := hq1 hsf
        have hn3 := hq2 hsf
        rw [if_pos hfa0] at hm
        clear i0 i1 i2 i4 i5 hq1 hq2
        refine tt_k 4 (S' := (147, [some (.inr (.inl 30)), some (.inl la), o_2, o_3, some (.inl n_), some (.inl k_), o_6], [.inr (.inl 30), .inl k_, .inr (.inl 45)], n, D, s0, p, c0)) rfl ?_
        refine tt_cl (by omega) rfl (v_nextByte (Zi := Zi) (D := D) (s := s0) (p := p) (c := c0) (by omega) hS0 hC0 A htp) ?_
        rintro _ _ ⟨s19, r20, rfl, rfl, hS19, f21, b22, k23, k24, k25, k26⟩
        show tt Zi d 192 (150, [some (.inr (.inl 30)), some (.inl la), o_2, o_3, some (.inl n_), some (.inl k_), o_6], [.inl r20, .inl k_, .inr (.inl 45)], n, D, s19, p, c0) _
        replace k23 : (s19 3050) = 0 → ((s0 3049) < A.2 ∧ gB A ((s0 3049)) = r20) ∧ (s19 3049) = (s0 3049) + 1 ∧ (s19 3049) ≤ (s0 3014) := k23
        replace k24 : (s0 3050) = 0 → (s19 3050) ≠ 0 → A.2 ≤ (s0 3049) := k24
        replace k25 : (s0 3050) ≠ 0 → (s19 3050) ≠ 0 := k25
        replace k26 : (s0 3049) ≤ (s19 3049) := k26
        have b27 : 0 ≤ (s19 3050) ∧ (s19 3050) ≤ 8 := hS19 3050
        have b28 : 0 ≤ (s19 3049) ∧ (s19 3049) ≤ 32769 := hS19 3049
        have e29 : s19 3014 = (s0 3014) := (f21 3014 (by decide))
        have b30 : 0 ≤ (s19 3014) ∧ (s19 3014) ≤ 32768 := hS19 3014
        have e31 : s19 3060 = (s0 3060) := (f21 3060 (by decide))
        have b32 : 0 ≤ (s19 3060) ∧ (s19 3060) ≤ 255 := hS19 3060
        have e33 : s19 3057 = (s0 3057) := (f21 3057 (by decide))
        have b34 : 0 ≤ (s19 3057) ∧ (s19 3057) ≤ 65535 := hS19 3057
        have e35 : s19 3058 = (s0 3058) := (f21 3058 (by decide))
        have b36 : 0 ≤ (s19 3058) ∧ (s19 3058) ≤ 65535 := hS19 3058
        have hx37 : tpl A (s19 3014) (c0 34) := by rw [f21 3014 (by decide)]; exact htp
        by_cases hf1 : s19 3050 = 0
        · skip
          have hb8 := k23 hf1
          clear k23 k24 k25
          have hqn : qN A la k_ = r20 := by unfold qN; rw [show la + 8 + 3 * k_ = s0 3049 by omega]; exact hb8.1.2
          refine tt_ist (i := k_) (x := r20) rfl rfl (by omega) ?_
          show tt Zi d 192 (151, [some (.inr (.inl 30)), some (.inl la), o_2, o_3, some (.inl n_), some (.inl k_), o_6], [], n, D, s19, p, (uc c0 45 (ua (c0 45) (k_).toNat r20))) _
          refine tt_k 2 (S' := (154, [some (.inr (.inl 30)), some (.inl la), o_2, o_3, some (.inl n_), some (.inl k_), some (.inl 0)], [], n, D, s19, p, (uc c0 45 (ua (c0 45) (k_).toNat r20)))) rfl ?_
          refine v_readFrameL_L154 (Zi := Zi) (D := D) (s := s19) (p := p) (c := (uc c0 45 (ua (c0 45) (k_).toNat r20))) hd hS19 (bC_st hC0 (show -2147483648 ≤ r20 ∧ r20 ≤ 2147483647 by omega))  n_ k_ (by omega) (by omega) (show 1 ≤ (s19 3049) by omega) ?_ _ 0 s19 (by omega) hS19 fr_rf (fun _ => ⟨by omega, fun j h1 h2 => absurd h2 (by omega)⟩) (fun h => Or.inl h) (show 0 ≤ k_ by omega) (Nat.lt_succ_self _)
          intro x38 s39 b40 hS39 f41 i42 i43 i44 hx45
          show tt Zi d 192 (202, [some (.inr (.inl 30)), some (.inl la), o_2, o_3, some (.inl n_), some (.inl k_), some (.inl x38)], [], n, D, s39, p, (uc c0 45 (ua (c0 45) (k_).toNat r20))) _
          have e46 : s39 3049 = (s19 3049) := (f41 3049 (by decide))
          have b47 : 0 ≤ (s39 3049) ∧ (s39 3049) ≤ 32769 := hS39 3049
          have e48 : s39 3014 = (s19 3014) := (f41 3014 (by decide))
          have b49 : 0 ≤ (s39 3014) ∧ (s39 3014) ≤ 32768 := hS39 3014
          have e50 : s39 3060 = (s19 3060) := (f41 3060 (by decide))
          have b51 : 0 ≤ (s39 3060) ∧ (s39 3060) ≤ 255 := hS39 3060
          have e52 : s39 3057 = (s19 3057) := (f41 3057 (by decide))
          have b53 : 0 ≤ (s39 3057) ∧ (s39 3057) ≤ 65535 := hS39 3057
          have e54 : s39 3058 = (s19 3058) := (f41 3058 (by decide))
          have b55 : 0 ≤ (s39 3058) ∧ (s39 3058) ≤ 65535 := hS39 3058
          have hx56 : tpl A (s39 3014) (c0 34) := by rw [f41 3014 (by decide)]; exact hx37
          have b57 : 0 ≤ (s39 3050) ∧ (s39 3050) ≤ 8 := hS39 3050
          by_cases hf2 : s39 3050 = 0
          · skip
            have hcd := (i42 hf2).2
            clear i42 i43
            have hnn : ∀ j : Int, 0 ≤ j → j < k_ + 1 → ua (c0 45) k_.toNat r20 j.toNat = qN A la j := fun j h1 h2 => if e : j = k_ then (by rw [e, ua_eq, hqn]) else (by rw [ua_ne (by omega)]; exact j2_ j h1 (by omega))
            have hdi : ∀ j : Int, 0 ≤ j → j < k_ → qN A la j ≠ qN A la k_ := fun j h1 h2 => by have h := hcd j h1 (by omega); have e1 : ua (c0 45) k_.toNat r20 j.toNat = qN A la j := hnn j h1 (by omega); have e2 : ua (c0 45) k_.toNat r20 k_.toNat = qN A la k_ := hnn k_ (by omega) (by omega); intro e3; exact h (e1.trans (e3.trans e2.symm))
            refine tt_k 2 (S' := (206, [some (.inr (.inl 30)), some (.inl la), o_2, o_3, some (.inl n_), some (.inl k_), some (.inl x38)], [.inl (s39 3050)], n, D, s39, p, (uc c0 45 (ua (c0 45) (k_).toNat r20)))) rfl ?_
            refine tz_ne (x := (s39 3050)) rfl rfl (by omega) (fun h58 => ?_) (fun h58 => ?_)
            · exfalso; omega
            · show tt Zi d 192 (209, [some (.inr (.inl 30)), some (.inl la), o_2, o_3, some (.inl n_), some (.inl k_), some (.inl x38)], [], n, D, s39, p, (uc c0 45 (ua (c0 45) (k_).toNat r20))) _
              refine tt_k 2 (S' := (212, [some (.inr (.inl 30)), some (.inl la), o_2, o_3, some (.inl n_), some (.inl k_), some (.inl x38)], [.inl 17, .inr (.inl 30)], n, D, s39, p, (uc c0 45 (ua (c0 45) (k_).toNat r20)))) rfl ?_
              refine tt_cl (by omega) rfl (v_want (Zi := Zi) (D := D) (s := s39) (p := p) (c := (uc c0 45 (ua (c0 45) (k_).toNat r20))) (by omega) hS39 (bC_st hC0 (show -2147483648 ≤ r20 ∧ r20 ≤ 2147483647 by omega)) A 17 (by omega) hx56) ?_
              rintro _ _ ⟨s59, rfl, rfl, hS59, f60, k61, k62, k63, k64⟩
              show tt Zi d 192 (215, [some (.inr (.inl 30)), some (.inl la), o_2, o_3, some (.inl n_), some (.inl k_), some (.inl x38)], [], n, D, s59, p, (uc c0 45 (ua (c0 45) (k_).toNat r20))) _
              replace k61 : (s59 3050) = 0 → ((s39 3049) < A.2 ∧ gB A ((s39 3049)) = 17) ∧ (s59 3049) = (s39 3049) + 1 ∧ (s59 3049) ≤ (s39 3014) := k61
              replace k62 : (s39 3050) = 0 → (s59 3050) ≠ 0 → A.2 ≤ (s39 3049) ∨ gB A ((s39 3049)) ≠ 17 := k62
              replace k63 : (s39 3050) ≠ 0 → (s59 3050) ≠ 0 := k63
              replace k64 : (s39 3049) ≤ (s59 3049) := k64
              have b65 : 0 ≤ (s59 3050) ∧ (s59 3050) ≤ 8 := hS59 3050
              have b66 : 0 ≤ (s59 3049) ∧ (s59 3049) ≤ 32769 := hS59 3049
              have e67 : s59 3014 = (s39 3014) := (f60 3014 (by decide))
              have b68 : 0 ≤ (s59 3014) ∧ (s59 3014) ≤ 32768 := hS59 3014
              have e69 : s59 3060 = (s39 3060) := (f60 3060 (by decide))
              have b70 : 0 ≤ (s59 3060) ∧ (s59 3060) ≤ 255 := hS59 3060
              have e71 : s59 3057 = (s39 3057) := (f60 3057 (by decide))
              have b72 : 0 ≤ (s59 3057) ∧ (s59 3057) ≤ 65535 := hS59 3057
              have e73 : s59 3058 = (s39 3058) := (f60 3058 (by decide))
              have b74 : 0 ≤ (s59 3058) ∧ (s59 3058) ≤ 65535 := hS59 3058
              have hx75 : tpl A (s59 3014) (c0 34) := by rw [f60 3014 (by decide)]; exact hx56
              by_cases hf9 : s59 3050 = 0
              · skip
                have hb9 := k61 hf9
                rw [show s39 3049 = la + 9 + 3 * k_ by omega] at hb9
                clear k61 k62 k63
                refine tt_k 2 (S' := (219, [some (.inr (.inl 30)), some (.inl la), o_2, o_3, some (.inl n_), some (.inl k_), some (.inl x38)], [.inl (s59 3050)], n, D, s59, p, (uc c0 45 (ua (c0 45) (k_).toNat r20)))) rfl ?_
                refine tz_ne (x := (s59 3050)) rfl rfl (by omega) (fun h76 => ?_) (fun h76 => ?_)
                · exfalso; omega
                · show tt Zi d 192 (222, [some (.inr (.inl 30)), some (.inl la), o_2, o_3, some (.inl n_), some (.inl k_), some (.inl x38)], [], n, D, s59, p, (uc c0 45 (ua (c0 45) (k_).toNat r20))) _
                  refine tt_k 2 (S' := (224, [some (.inr (.inl 30)), some (.inl la), o_2, o_3, some (.inl n_), some (.inl k_), some (.inl x38)], [.inl 0, .inr (.inl 30)], n, D, s59, p, (uc c0 45 (ua (c0 45) (k_).toNat r20)))) rfl ?_
                  refine tt_cl (by omega) rfl (v_want (Zi := Zi) (D := D) (s := s59) (p := p) (c := (uc c0 45 (ua (c0 45) (k_).toNat r20))) (by omega) hS59 (bC_st hC0 (show -2147483648 ≤ r20 ∧ r20 ≤ 2147483647 by omega)) A 0 (by omega) hx75) ?_
                  rintro _ _ ⟨s77, rfl, rfl, hS77, f78, k79, k80, k81, k82⟩
                  show tt Zi d 192 (227, [some (.inr (.inl 30)), some (.inl la), o_2, o_3, some (.inl n_), some (.inl k_), some (.inl x38)], [], n, D, s77, p, (uc c0 45 (ua (c0 45) (k_).toNat r20))) _
                  replace k79 : (s77 3050) = 0 → ((s59 3049) < A.2 ∧ gB A ((s59 3049)) = 0) ∧ (s77 3049) = (s59 3049) + 1 ∧ (s77 3049) ≤ (s59 3014) := k79
                  replace k80 : (s59 3050) = 0 → (s77 3050) ≠ 0 → A.2 ≤ (s59 3049) ∨ gB A ((s59 3049)) ≠ 0 := k80
                  replace k81 : (s59 3050) ≠ 0 → (s77 3050) ≠ 0 := k81
                  replace k82 : (s59 3049) ≤ (s77 3049) := k82
                  have b83 : 0 ≤ (s77 3050) ∧ (s77 3050) ≤ 8 := hS77 3050
                  have b84 : 0 ≤ (s77 3049) ∧ (s77 3049) ≤ 32769 := hS77 3049
                  have e85 : s77 3014 = (s59 3014) := (f78 3014 (by decide))
                  have b86 : 0 ≤ (s77 3014) ∧ (s77 3014) ≤ 32768 := hS77 3014
                  have e87 : s77 3060 = (s59 3060) := (f78 3060 (by decide))
                  have b88 : 0 ≤ (s77 3060) ∧ (s77 3060) ≤ 255 := hS77 3060
                  have e89 : s77 3057 = (s59 3057) := (f78 3057 (by decide))
                  have b90 : 0 ≤ (s77 3057) ∧ (s77 3057) ≤ 65535 := hS77 3057
                  have e91 : s77 3058 = (s59 3058) := (f78 3058 (by decide))
                  have b92 : 0 ≤ (s77 3058) ∧ (s77 3058) ≤ 65535 := hS77 3058
                  have hx93 : tpl A (s77 3014) (c0 34) := by rw [f78 3014 (by decide)]; exact hx75
                  by_cases hf10 : s77 3050 = 0
                  · skip
                    have hb10 := k79 hf10
                    rw [show s59 3049 = la + 10 + 3 * k_ by omega] at hb10
                    clear k79 k80 k81
                    refine tt_k 2 (S' := (126, [some (.inr (.inl 30)), some (.inl la), o_2, o_3, some (.inl n_), some (.inl (k_ + 1)), some (.inl x38)], [], n, D, s77, p, (uc c0 45 (ua (c0 45) (k_).toNat r20)))) rfl ?_
                    exact ih (k_ + 1) (some (.inl x38)) s77 (uc c0 45 (ua (c0 45) (k_).toNat r20)) (by omega) hS77 (fr_tr (fr_tr (fr_tr (fr_tr hF0 f21 (by decide)) f41 (by decide)) f60 (by decide)) f78 (by decide)) (bC_st hC0 (show -2147483648 ≤ r20 ∧ r20 ≤ 2147483647 by omega)) (frc_uc (by decide) hG0) (fun _ => ⟨nmO_s hnm ⟨hb9.1.2, hb10.1.2⟩ hdi, by omega, by omega⟩) (fun h => absurd hf10 h) (fun _ => hnn) (show la + 2 ≤ (s77 3049) ∧ s 3049 ≤ (s77 3049) by omega) (show (s77 3050) = 0 → (k_ + 1) ≤ n_ by omega) (fun h => absurd hsf h) (show (if (s77 3050) = 0 then 4 - (k_ + 1) else 0).toNat < m by omega)
                  · skip
                    have hno : ¬ okF A la := by have h := k80 (by omega) hf10; rw [show s59 3049 = la + 10 + 3 * k_ by omega] at h; rintro ⟨o1, o2, o3, o4, o5, o6, o7⟩; unfold oF at hof; have h7 := o7.1 k_ (by omega) (by omega); omega
                    clear k79 k80 k81
                    refine tt_k 2 (S' := (126, [some (.inr (.inl 30)), some (.inl la), o_2, o_3, some (.inl n_), some (.inl (k_ + 1)), some (.inl x38)], [], n, D, s77, p, (uc c0 45 (ua (c0 45) (k_).toNat r20)))) rfl ?_
                    have hbad : ¬ (s77 3050) = 0 := by omega
                    exact ih (k_ + 1) (some (.inl x38)) s77 (uc c0 45 (ua (c0 45) (k_).toNat r20)) (by omega) hS77 (fr_tr (fr_tr (fr_tr (fr_tr hF0 f21 (by decide)) f41 (by decide)) f60 (by decide)) f78 (by decide)) (bC_st hC0 (show -2147483648 ≤ r20 ∧ r20 ≤ 2147483647 by omega)) (frc_uc (by decide) hG0) (fun h => absurd h hbad) (fun _ => hno) (fun h => absurd h hbad) (show la + 2 ≤ (s77 3049) ∧ s 3049 ≤ (s77 3049) by omega) (fun h => absurd h hbad) (fun _ => hbad) (show (if (s77 3050) = 0 then 4 - (k_ + 1) else 0).toNat < m by omega)
              · skip
                have hno : ¬ okF A la := by have h := k62 (by omega) hf9; rw [show s39 3049 = la + 9 + 3 * k_ by omega] at h; rintro ⟨o1, o2, o3, o4, o5, o6, o7⟩; unfold oF at hof; have h7 := o7.1 k_ (by omega) (by omega); omega
                clear k61 k62 k63
                refine tt_k 2 (S' := (219, [some (.inr (.inl 30)), some (.inl la), o_2, o_3, some (.inl n_), some (.inl k_), some (.inl x38)], [.inl (s59 3050)], n, D, s59, p, (uc c0 45 (ua (c0 45) (k_).toNat r20)))) rfl ?_
                refine tz_ne (x := (s59 3050)) rfl rfl (by omega) (fun h94 => ?_) (fun h94 => ?_)
                · show tt Zi d 192 (227, [some (.inr (.inl 30)), some (.inl la), o_2, o_3, some (.inl n_), some (.inl k_), some (.inl x38)], [], n, D, s59, p, (uc c0 45 (ua (c0 45) (k_).toNat r20))) _
                  refine tt_k 2 (S' := (126, [some (.inr (.inl 30)), some (.inl la), o_2, o_3, some (.inl n_), some (.inl (k_ + 1)), some (.inl x38)], [], n, D, s59, p, (uc c0 45 (ua (c0 45) (k_).toNat r20)))) rfl ?_
                  have hbad : ¬ (s59 3050) = 0 := by omega
                  exact ih (k_ + 1) (some (.inl x38)) s59 (uc c0 45 (ua (c0 45) (k_).toNat r20)) (by omega) hS59 (fr_tr (fr_tr (fr_tr hF0 f21 (by decide)) f41 (by decide)) f60 (by decide)) (bC_st hC0 (show -2147483648 ≤ r20 ∧ r20 ≤ 2147483647 by omega)) (frc_uc (by decide) hG0) (fun h => absurd h hbad) (fun _ => hno) (fun h => absurd h hbad) (show la + 2 ≤ (s59 3049) ∧ s 3049 ≤ (s59 3049) by omega) (fun h => absurd h hbad) (fun _ => hbad) (show (if (s59 3050) = 0 then 4 - (k_ + 1) else 0).toNat < m by omega)
                · exfalso; omega
          · skip
            have hno : ¬ okF A la := by obtain ⟨j, hj, he⟩ := (i43 hf2).resolve_left (by omega); rintro ⟨o1, o2, o3, o4, o5, o6, o7⟩; unfold oF at hof; refine o7.2 j k_ hj.1 hj.2 (by omega) ?_; have e1 : ua (c0 45) k_.toNat r20 j.toNat = ua (c0 45) k_.toNat r20 k_.toNat := he; rw [ua_eq, ua_ne (by omega)] at e1; rw [hqn, ← e1]; exact (j2_ j hj.1 hj.2).symm
            clear i42 i43
            refine tt_k 2 (S' := (206, [some (.inr (.inl 30)), some (.inl la), o_2, o_3, some (.inl n_), some (.inl k_), some (.inl x38)], [.inl (s39 3050)], n, D, s39, p, (uc c0 45 (ua (c0 45) (k_).toNat r20)))) rfl ?_
            refine tz_ne (x := (s39 3050)) rfl rfl (by omega) (fun h95 => ?_) (fun h95 => ?_)
            · show tt Zi d 192 (215, [some (.inr (.inl 30)), some (.inl la), o_2, o_3, some (.inl n_), some (.inl k_), some (.inl x38)], [], n, D, s39, p, (uc c0 45 (ua (c0 45) (k_).toNat r20))) _
              refine tt_k 2 (S' := (219, [some (.inr (.inl 30)), some (.inl la), o_2, o_3, some (.inl n_), some (.inl k_), some (.inl x38)], [.inl (s39 3050)], n, D, s39, p, (uc c0 45 (ua (c0 45) (k_).toNat r20)))) rfl ?_
              refine tz_ne (x := (s39 3050)) rfl rfl (by omega) (fun h96 => ?_) (fun h96 => ?_)
              · show tt Zi d 192 (227, [some (.inr (.inl 30)), some (.inl la), o_2, o_3, some (.inl n_), some (.inl k_), some (.inl x38)], [], n, D, s39, p, (uc c0 45 (ua (c0 45) (k_).toNat r20))) _
                refine tt_k 2 (S' := (126, [some (.inr (.inl 30)), some (.inl la), o_2, o_3, some (.inl n_), some (.inl (k_ + 1)), some (.inl x38)], [], n, D, s39, p, (uc c0 45 (ua (c0 45) (k_).toNat r20)))) rfl ?_
                have hbad : ¬ (s39 3050) = 0 := by omega
                exact ih (k_ + 1) (some (.inl x38)) s39 (uc c0 45 (ua (c0 45) (k_).toNat r20)) (by omega) hS39 (fr_tr (fr_tr hF0 f21 (by decide)) f41 (by decide)) (bC_st hC0 (show -2147483648 ≤ r20 ∧ r20 ≤ 2147483647 by omega)) (frc_uc (by decide) hG0) (fun h => absurd h hbad) (fun _ => hno) (fun h => absurd h hbad) (show la + 2 ≤ (s39 3049) ∧ s 3049 ≤ (s39 3049) by omega) (fun h => absurd h hbad) (fun _ => hbad) (show (if (s39 3050) = 0 then 4 - (k_ + 1) else 0).toNat < m by omega)
              · exfalso; omega
            · exfalso; omega
        · skip
          have hno : ¬ okF A la := by have h := k24 (by omega) hf1; rintro ⟨o1, o2, o3, o4, o5, o6, o7⟩; unfold oF at hof; omega
          clear k23 k24 k25
          refine tt_ist (i := k_) (x := r20) rfl rfl (by omega) ?_
          show tt Zi d 192 (151, [some (.inr (.inl 30)), some (.inl la), o_2, o_3, some (.inl n_), some (.inl k_), o_6], [], n, D, s19, p, (uc c0 45 (ua (c0 45) (k_).toNat r20))) _
          refine tt_k 2 (S' := (154, [some (.inr (.inl 30)), some (.inl la), o_2, o_3, some (.inl n_), some (.inl k_), some (.inl 0)], [], n, D, s19, p, (uc c0 45 (ua (c0 45) (k_).toNat r20)))) rfl ?_
          refine v_readFrameL_L154 (Zi := Zi) (D := D) (s := s19) (p := p) (c := (uc c0 45 (ua (c0 45) (k_).toNat r20))) hd hS19 (bC_st hC0 (show -2147483648 ≤ r20 ∧ r20 ≤ 2147483647 by omega))  n_ k_ (by omega) (by omega) (show 1 ≤ (s19 3049) by omega) ?_ _ 0 s19 (by omega) hS19 fr_rf (fun h => absurd h (by omega)) (fun h => Or.inl h) (show 0 ≤ k_ by omega) (Nat.lt_succ_self _)
          intro x97 s98 b99 hS98 f100 i101 i102 i103 hx104
          show tt Zi d 192 (202, [some (.inr (.inl 30)), some (.inl la), o_2, o_3, some (.inl n_), some (.inl k_), some (.inl x97)], [], n, D, s98, p, (uc c0 45 (ua (c0 45) (k_).toNat r20))) _
          have e105 : s98 3049 = (s19 3049) := (f100 3049 (by decide))
          have b106 : 0 ≤ (s98 3049) ∧ (s98 3049) ≤ 32769 := hS98 3049
          have e107 : s98 3014 = (s19 3014) := (f100 3014 (by decide))
          have b108 : 0 ≤ (s98 3014) ∧ (s98 3014) ≤ 32768 := hS98 3014
          have e109 : s98 3060 = (s19 3060) := (f100 3060 (by decide))
          have b110 : 0 ≤ (s98 3060) ∧ (s98 3060) ≤ 255 := hS98 3060
          have e111 : s98 3057 = (s19 3057) := (f100 3057 (by decide))
          have b112 : 0 ≤ (s98 3057) ∧ (s98 3057) ≤ 65535 := hS98 3057
          have e113 : s98 3058 = (s19 3058) := (f100 3058 (by decide))
          have b114 : 0 ≤ (s98 3058) ∧ (s98 3058) ≤ 65535 := hS98 3058
          have hx115 : tpl A (s98 3014) (c0 34) := by rw [f100 3014 (by decide)]; exact hx37
          have b116 : 0 ≤ (s98 3050) ∧ (s98 3050) ≤ 8 := hS98 3050
          have hfz : s98 3050 ≠ 0 := fun hf => by have h := (i101 hf).1; omega
          refine tt_k 2 (S' := (206, [some (.inr (.inl 30)), some (.inl la), o_2, o_3, some (.inl n_), some (.inl k_), some (.inl x97)], [.inl (s98 3050)], n, D, s98, p, (uc c0 45 (ua (c0 45) (k_).toNat r20)))) rfl ?_
          refine tz_ne (x := (s98 3050)) rfl rfl (by omega) (fun h117 => ?_) (fun h117 => ?_)
          · show tt Zi d 192 (215, [some (.inr (.inl 30)), some (.inl la), o_2, o_3, some (.inl n_), some (.inl k_), some (.inl x97)], [], n, D, s98, p, (uc c0 45 (ua (c0 45) (k_).toNat r20))) _
            refine tt_k 2 (S' := (219, [some (.inr (.inl 30)), some (.inl la), o_2, o_3, some (.inl n_), some (.inl k_), some (.inl x97)], [.inl (s98 3050)], n, D, s98, p, (uc c0 45 (ua (c0 45) (k_).toNat r20)))) rfl ?_
            refine tz_ne (x := (s98 3050)) rfl rfl (by omega) (fun h118 => ?_) (fun h118 => ?_)
            · show tt Zi d 192 (227, [some (.inr (.inl 30)), some (.inl la), o_2, o_3, some (.inl n_), some (.inl k_), some (.inl x97)], [], n, D, s98, p, (uc c0 45 (ua (c0 45) (k_).toNat r20))) _
              refine tt_k 2 (S' := (126, [some (.inr (.inl 30)), some (.inl la), o_2, o_3, some (.inl n_), some (.inl (k_ + 1)), some (.inl x97)], [], n, D, s98, p, (uc c0 45 (ua (c0 45) (k_).toNat r20)))) rfl ?_
              have hbad : ¬ (s98 3050) = 0 := by omega
              exact ih (k_ + 1) (some (.inl x97)) s98 (uc c0 45 (ua (c0 45) (k_).toNat r20)) (by omega) hS98 (fr_tr (fr_tr hF0 f21 (by decide)) f100 (by decide)) (bC_st hC0 (show -2147483648 ≤ r20 ∧ r20 ≤ 2147483647 by omega)) (frc_uc (by decide) hG0) (fun h => absurd h hbad) (fun _ => hno) (fun h => absurd h hbad) (show la + 2 ≤ (s98 3049) ∧ s 3049 ≤ (s98 3049) by omega) (fun h => absurd h hbad) (fun _ => hbad) (show (if (s98 3050) = 0 then 4 - (k_ + 1) else 0).toNat < m by omega)
            · exfalso; omega
          · exfalso; omega
set_option maxRecDepth 100000 in
set_option maxHeartbeats 4000000 in
theorem v_readFrameL {Zi : Nat → Option (Nat × (Nat → Int))} {d n : Nat} {D : Nat → Nat × Nat} {s : Nat → Int} {p : Nat → Nat} {c : Nat → Nat → Int} (hd : 3 ≤ d) (hS : bS s) (hC : bC D c) (A : TN) (la : Int) (ln : Int) (s3 : Int) (n_ : Int) (b_la : 0 ≤ la ∧ la ≤ 32769) (b_ln : 0 ≤ ln ∧ ln ≤ 65535) (b_s3 : 0 ≤ s3 ∧ s3 ≤ 65535) (b_n_ : 0 ≤ n_ ∧ n_ ≤ 255) (hp0 : tpl A (s 3014) (c 34)) (hp1 : s 3050 = 0 → oF A la n_) (hp2 : s 3050 ≠ 0 → ¬ okF A la) (hp3 : s 3050 = 0 → s 3049 = la + 8 ∧ s 3049 ≤ s 3014) (hp4 : la + 2 ≤ s 3049) (hp5 : s 3050 = 0 → (s 3057 = qW A la ∧ s 3058 = qH A la) ∧ s 3060 = qD A la) : tt Zi d 192 (123, [some (.inr (.inl 30)), some (.inl la), some (.inl ln), some (.inl s3), some (.inl n_), none, none], [], n, D, s, p, c) (fun R H => ∃ (s' : Nat → Int) (c' : Nat → Nat → Int), R = .inl none ∧ H = (n, D, s', p, c') ∧ bS s' ∧ bC D c' ∧ fr s s' [3049, 3050, 3051, 3057, 3058, 3059, 3060] ∧ frc c c' [45] ∧ (s' 3050 = 0 → okF A la) ∧ (s' 3050 ≠ 0 → ¬ okF A la) ∧ (s' 3050 = 0 → s' 3049 = la + 8 + 3 * qP A la ∧ s' 3049 ≤ s 3014) ∧ (s' 3050 = 0 → (s' 3057 = qW A la ∧ s' 3058 = qH A la) ∧ (s' 3059 = qP A la ∧ s' 3060 = qD A la)) ∧ (s' 3050 = 0 → ∀ j : Int, 0 ≤ j → j < qP A la → c' 45 j.toNat = qN A la j) ∧ (s 3049 ≤ s' 3049)) := by
  have hA := hp0.1
  have b1 : 0 ≤ (s 3049) ∧ (s 3049) ≤ 32769 := hS 3049
  have b2 : 0 ≤ (s 3014) ∧ (s 3014) ≤ 32768 := hS 3014
  have b3 : 0 ≤ (s 3050) ∧ (s 3050) ≤ 8 := hS 3050
  have b4 : 0 ≤ (s 3060) ∧ (s 3060) ≤ 255 := hS 3060
  have b5 : 0 ≤ (s 3057) ∧ (s 3057) ≤ 65535 := hS 3057
  have b6 : 0 ≤ (s 3058) ∧ (s 3058) ≤ 65535 := hS 3058
  refine tt_k 2 (S' := (126, [some (.inr (.inl 30)), some (.inl la), some (.inl ln), some (.inl s3), some (.inl n_), some (.inl 0), none], [], n, D, s, p, c)) rfl ?_
  refine v_readFrameL_L126 (Zi := Zi) (D := D) (s := s) (p := p) (c := c) hd hS hC A la n_ (by omega) (by omega) hp0 hp1 (fun h => by have h2 := hp1 h; unfold oF at h2; omega) ?_ _ 0 (none) s c (by omega) hS fr_rf hC frc_rf (fun hf => ⟨nmO_0, by have h := hp3 hf; omega, by have h := hp3 hf; omega⟩) hp2 (fun _ j h1 h2 => absurd h2 (by omega)) (show la + 2 ≤ ((s 3049)) ∧ (s 3049) ≤ ((s 3049)) by omega) (show ((s 3050)) = 0 → 0 ≤ n_ by omega) (fun h => h) (Nat.lt_succ_self _)
  intro x7 x8 s9 c10 b11 hS9 f12 hC10 g13 i14 i15 i16 i17 i18 i19 hx20
  show tt Zi d 192 (233, [some (.inr (.inl 30)), some (.inl la), some (.inl ln), some (.inl s3), some (.inl n_), some (.inl x7), x8], [], n, D, s9, p, c10) _
  have e21 : s9 3014 = (s 3014) := (f12 3014 (by decide))
  have b22 : 0 ≤ (s9 3014) ∧ (s9 3014) ≤ 32768 := hS9 3014
  have e23 : s9 3060 = (s 3060) := (f12 3060 (by decide))
  have b24 : 0 ≤ (s9 3060) ∧ (s9 3060) ≤ 255 := hS9 3060
  have e25 : s9 3057 = (s 3057) := (f12 3057 (by decide))
  have b26 : 0 ≤ (s9 3057) ∧ (s9 3057) ≤ 65535 := hS9 3057
  have e27 : s9 3058 = (s 3058) := (f12 3058 (by decide))
  have b28 : 0 ≤ (s9 3058) ∧ (s9 3058) ≤ 65535 := hS9 3058
  have hx29 : tpl A (s9 3014) (c10 34) := by rw [f12 3014 (by decide), g13 34 (by decide)]; exact hp0
  refine tt_k 3 (S' := (238, [some (.inr (.inl 30)), some (.inl la), some (.inl ln), some (.inl s3), some (.inl n_), some (.inl x7), x8], [.inl (s9 3050), .inr (.inl 30)], n, D, s9, p, c10)) rfl ?_
  have b30 : 0 ≤ (s9 3050) ∧ (s9 3050) ≤ 8 := hS9 3050
  refine tz_ne (x := (s9 3050)) rfl rfl (by omega) (fun h31 => ?_) (fun h31 => ?_)
  · show tt Zi d 192 (246, [some (.inr (.inl 30)), some (.inl la), some (.inl ln), some (.inl s3), some (.inl n_), some (.inl x7), x8], [.inr (.inl 30)], n, D, s9, p, c10) _
    refine tt_k 2 (S' := (250, [some (.inr (.inl 30)), some (.inl la), some (.inl ln), some (.inl s3), some (.inl n_), some (.inl x7), x8], [], n, D, (us s9 3059 0), p, c10)) rfl ?_
    exact tt_rtv rfl rfl ⟨(us s9 3059 0), c10, rfl, rfl, (bS_us hS9 (show 0 ≤ 0 ∧ 0 ≤ 3 by omega)), hC10, (fr_us (by decide) (fr_tr fr_rf f12 (by decide))), (frc_tr frc_rf g13 (by decide)), by show (s9 3050) = 0 → okF A la; intro hf; exact absurd hf (by omega), by show (s9 3050) ≠ 0 → ¬ okF A la; exact i15, by show (s9 3050) = 0 → (s9 3049) = la + 8 + 3 * qP A la ∧ (s9 3049) ≤ s 3014; intro hf; exact absurd hf (by omega), by show (s9 3050) = 0 → ((s9 3057) = qW A la ∧ (s9 3058) = qH A la) ∧ (0 = qP A la ∧ (s9 3060) = qD A la); intro hf; exact absurd hf (by omega), by show (s9 3050) = 0 → ∀ j : Int, 0 ≤ j → j < qP A la → (c10 45) j.toNat = qN A la j; intro hf; exact absurd hf (by omega), by show s 3049 ≤ (s9 3049); omega⟩
  · show tt Zi d 192 (241, [some (.inr (.inl 30)), some (.inl la), some (.inl ln), some (.inl s3), some (.inl n_), some (.inl x7), x8], [.inr (.inl 30)], n, D, s9, p, c10) _
    refine tt_k 3 (S' := (250, [some (.inr (.inl 30)), some (.inl la), some (.inl ln), some (.inl s3), some (.inl n_), some (.inl x7), x8], [], n, D, (us s9 3059 n_), p, c10)) rfl ?_
    have hz0 : s9 3050 = 0 := by omega
    have hsf : s 3050 = 0 := by omega
    have h1 := i14 hz0
    have h2 := hx20 hz0
    have h3 := i18 hz0
    have h6 := i16 hz0
    have h5 := hp5 hsf
    have hof := hp1 hsf
    unfold oF at hof
    clear i14 i15 i16 i18 i19 hx20 hp1 hp2 hp3 hp5
    have e3 : x7 = qP A la := by omega
    rw [e3] at h1 h6
    exact tt_rtv rfl rfl ⟨(us s9 3059 n_), c10, rfl, rfl, (bS_us hS9 (show 0 ≤ n_ ∧ n_ ≤ 3 by omega)), hC10, (fr_us (by decide) (fr_tr fr_rf f12 (by decide))), (frc_tr frc_rf g13 (by decide)), by show (s9 3050) = 0 → okF A la; intro _; exact ⟨by omega, by omega, by omega, by omega, by omega, by omega, h1.1⟩, by show (s9 3050) ≠ 0 → ¬ okF A la; intro hf; exact absurd hz0 hf, by show (s9 3050) = 0 → (s9 3049) = la + 8 + 3 * qP A la ∧ (s9 3049) ≤ s 3014; intro _; omega, by show (s9 3050) = 0 → ((s9 3057) = qW A la ∧ (s9 3058) = qH A la) ∧ (n_ = qP A la ∧ (s9 3060) = qD A la); intro _; omega, by show (s9 3050) = 0 → ∀ j : Int, 0 ≤ j → j < qP A la → (c10 45) j.toNat = qN A la j; intro _; exact h6, by show s 3049 ≤ (s9 3049); omega⟩
set_option maxRecDepth 100000 in
set_option maxHeartbeats 4000000 in
theorem v_readFrameB {Zi : Nat → Option (Nat × (Nat → Int))} {d n : Nat} {D : Nat → Nat × Nat} {s : Nat → Int} {p : Nat → Nat} {c : Nat → Nat → Int} (hd : 4 ≤ d) (hS : bS s) (hC : bC D c) (A : TN) (la : Int) (ln : Int) (s3 : Int) (n_ : Int) (b_la : 0 ≤ la ∧ la ≤ 32769) (b_ln : 0 ≤ ln ∧ ln ≤ 65535) (b_s3 : 0 ≤ s3 ∧ s3 ≤ 65535) (b_n_ : 0 ≤ n_ ∧ n_ ≤ 255) (hp0 : tpl A (s 3014) (c 34)) (hp1 : s 3050 = 0 → oH A la n_) (hp2 : s 3050 ≠ 0 → ¬ okF A la) (hp3 : s 3050 = 0 → s 3049 = la + 8 ∧ s 3049 ≤ s 3014) (hp4 : la + 2 ≤ s 3049) (hp5 : s 3050 = 0 → (s 3057 = qW A la ∧ s 3058 = qH A la) ∧ s 3060 = qD A la) (hp6 : gT A la = ln) : tt Zi d 192 (69, [some (.inr (.inl 30)), some (.inl la), some (.inl ln), some (.inl s3), some (.inl n_), none, none], [], n, D, s, p, c) (fun R H => ∃ (s' : Nat → Int) (c' : Nat → Nat → Int), R = .inl none ∧ H = (n, D, s', p, c') ∧ bS s' ∧ bC D c' ∧ fr s s' [3049, 3050, 3051, 3057, 3058, 3059, 3060] ∧ frc c c' [45] ∧ (s' 3050 = 0 → okF A la) ∧ (s' 3050 ≠ 0 → ¬ okF A la) ∧ (s' 3050 = 0 → s' 3049 = la + 8 + 3 * qP A la ∧ s' 3049 ≤ s 3014) ∧ (s' 3050 = 0 → (s' 3057 = qW A la ∧ s' 3058 = qH A la) ∧ (s' 3059 = qP A la ∧ s' 3060 = qD A la)) ∧ (s' 3050 = 0 → ∀ j : Int, 0 ≤ j → j < qP A la → c' 45 j.toNat = qN A la j) ∧ (s 3049 ≤ s' 3049)) := by
  have hA := hp0.1
  have b1 : 0 ≤ (s 3049) ∧ (s 3049) ≤ 32769 := hS 3049
  have b2 : 0 ≤ (s 3014) ∧ (s 3014) ≤ 32768 := hS 3014
  have b3 : 0 ≤ (s 3050) ∧ (s 3050) ≤ 8 := hS 3050
  have b4 : 0 ≤ (s 3060) ∧ (s 3060) ≤ 255 := hS 3060
  have b5 : 0 ≤ (s 3057) ∧ (s 3057) ≤ 65535 := hS 3057
  have b6 : 0 ≤ (s 3058) ∧ (s 3058) ≤ 65535 := hS 3058
  refine tt_k 2 (S' := (73, [some (.inr (.inl 30)), some (.inl la), some (.inl ln), some (.inl s3), some (.inl n_), none, none], [.inl (s 3050)], n, D, s, p, c)) rfl ?_
  refine tz_ne (x := (s 3050)) rfl rfl (by omega) (fun h7 => ?_) (fun h7 => ?_)
  · show tt Zi d 192 (99, [some (.inr (.inl 30)), some (.inl la), some (.inl ln), some (.inl s3), some (.inl n_), none, none], [], n, D, s, p, c) _
    refine tt_k 2 (S' := (103, [some (.inr (.inl 30)), some (.inl la), some (.inl ln), some (.inl s3), some (.inl n_), none, none], [.inl (s 3050)], n, D, s, p, c)) rfl ?_
    refine tz_ne (x := (s 3050)) rfl rfl (by omega) (fun h8 => ?_) (fun h8 => ?_)
    · show tt Zi d 192 (123, [some (.inr (.inl 30)), some (.inl la), some (.inl ln), some (.inl s3), some (.inl n_), none, none], [], n, D, s, p, c) _
      have hno := hp2 (by omega)
      refine tt_mono (v_readFrameL (Zi := Zi) (D := D) (s := s) (p := p) (c := c) (by omega) hS hC A la ln s3 n_ (by omega) (by omega) (by omega) (by omega) hp0 (fun h => absurd h (by omega)) (fun _ => hno) (show (s 3050) = 0 → (s 3049) = la + 8 ∧ (s 3049) ≤ (s 3014) by omega) (show la + 2 ≤ (s 3049) by omega) (show (s 3050) = 0 → ((s 3057) = qW A la ∧ (s 3058) = qH A la) ∧ (s 3060) = qD A la by omega)) ?_
      rintro _ _ ⟨s9, c10, rfl, rfl, hS9, hC10, f11, g12, k13, k14, k15, k16, k17, k18⟩
      replace k15 : s9 3050 = 0 → s9 3049 = la + 8 + 3 * qP A la ∧ s9 3049 ≤ (s 3014) := k15
      replace k18 : (s 3049) ≤ s9 3049 := k18
      exact ⟨s9, c10, rfl, rfl, hS9, hC10, (fr_tr fr_rf f11 (by decide)), (frc_tr frc_rf g12 (by decide)), k13, k14, by show (s9 3050) = 0 → (s9 3049) = la + 8 + 3 * qP A la ∧ (s9 3049) ≤ s 3014; intro hf; have h := k15 hf; omega, k16, k17, by show s 3049 ≤ (s9 3049); omega⟩
    · exfalso; omega
  · show tt Zi d 192 (76, [some (.inr (.inl 30)), some (.inl la), some (.inl ln), some (.inl s3), some (.inl n_), none, none], [], n, D, s, p, c) _
    refine tt_k 2 (S' := (79, [some (.inr (.inl 30)), some (.inl la), some (.inl ln), some (.inl s3), some (.inl n_), none, none], [.inl 1, .inl n_], n, D, s, p, c)) rfl ?_
    refine tb_eq (x := n_) (y := 1) rfl rfl (by omega) (fun h19 => ?_) (fun h19 => ?_)
    · show tt Zi d 192 (99, [some (.inr (.inl 30)), some (.inl la), some (.inl ln), some (.inl s3), some (.inl n_), none, none], [], n, D, s, p, c) _
      refine tt_k 2 (S' := (103, [some (.inr (.inl 30)), some (.inl la), some (.inl ln), some (.inl s3), some (.inl n_), none, none], [.inl (s 3050)], n, D, s, p, c)) rfl ?_
      refine tz_ne (x := (s 3050)) rfl rfl (by omega) (fun h20 => ?_) (fun h20 => ?_)
      · exfalso; omega
      · show tt Zi d 192 (106, [some (.inr (.inl 30)), some (.inl la), some (.inl ln), some (.inl s3), some (.inl n_), none, none], [], n, D, s, p, c) _
        refine tt_k 6 (S' := (114, [some (.inr (.inl 30)), some (.inl la), some (.inl ln), some (.inl s3), some (.inl n_), none, none], [.inl (8 + (3 * n_)), .inl ln], n, D, s, p, c)) rfl ?_
        refine tb_eq (x := ln) (y := (8 + (3 * n_))) rfl rfl (by omega) (fun h21 => ?_) (fun h21 => ?_)
        · show tt Zi d 192 (123, [some (.inr (.inl 30)), some (.inl la), some (.inl ln), some (.inl s3), some (.inl n_), none, none], [], n, D, s, p, c) _
          refine tt_mono (v_readFrameL (Zi := Zi) (D := D) (s := s) (p := p) (c := c) (by omega) hS hC A la ln s3 n_ (by omega) (by omega) (by omega) (by omega) hp0 (fun _ => by have h := hp1 (by omega); unfold oH at h; unfold oF; omega) (fun h => absurd h (by omega)) (show (s 3050) = 0 → (s 3049) = la + 8 ∧ (s 3049) ≤ (s 3014) by omega) (show la + 2 ≤ (s 3049) by omega) (show (s 3050) = 0 → ((s 3057) = qW A la ∧ (s 3058) = qH A la) ∧ (s 3060) = qD A la by omega)) ?_
          rintro _ _ ⟨s22, c23, rfl, rfl, hS22, hC23, f24, g25, k26, k27, k28, k29, k30, k31⟩
          replace k28 : s22 3050 = 0 → s22 3049 = la + 8 + 3 * qP A la ∧ s22 3049 ≤ (s 3014) := k28
          replace k31 : (s 3049) ≤ s22 3049 := k31
          exact ⟨s22, c23, rfl, rfl, hS22, hC23, (fr_tr fr_rf f24 (by decide)), (frc_tr frc_rf g25 (by decide)), k26, k27, by show (s22 3050) = 0 → (s22 3049) = la + 8 + 3 * qP A la ∧ (s22 3049) ≤ s 3014; intro hf; have h := k28 hf; omega, k29, k30, by show s 3049 ≤ (s22 3049); omega⟩
        · show tt Zi d 192 (117, [some (.inr (.inl 30)), some (.inl la), some (.inl ln), some (.inl s3), some (.inl n_), none, none], [], n, D, s, p, c) _
          refine tt_k 3 (S' := (120, [some (.inr (.inl 30)), some (.inl la), some (.inl ln), some (.inl s3), some (.inl n_), none, none], [.inl la, .inl 4, .inr (.inl 30)], n, D, s, p, c)) rfl ?_
          refine tt_cl (by omega) rfl (k_fail (Zi := Zi) (D := D) (s := s) (p := p) (c := c) (by omega) hS hC 4 la (by omega) (by omega)) ?_
          rintro _ _ ⟨s32, rfl, rfl, hS32, f33, k34, k35⟩
          show tt Zi d 192 (123, [some (.inr (.inl 30)), some (.inl la), some (.inl ln), some (.inl s3), some (.inl n_), none, none], [], n, D, s32, p, c) _
          replace k34 : ((s 3050) = 0 → (s32 3050) = 4 ∧ (s32 3051) = la) := k34
          replace k35 : ((s 3050) ≠ 0 → (s32 3050) = (s 3050) ∧ (s32 3051) = (s 3051)) := k35
          have b36 : 0 ≤ (s32 3050) ∧ (s32 3050) ≤ 8 := hS32 3050
          have b37 : -1 ≤ (s32 3051) ∧ (s32 3051) ≤ 32769 := hS32 3051
          have b38 : -1 ≤ (s 3051) ∧ (s 3051) ≤ 32769 := hS 3051
          have e39 : s32 3049 = (s 3049) := (f33 3049 (by decide))
          have b40 : 0 ≤ (s32 3049) ∧ (s32 3049) ≤ 32769 := hS32 3049
          have e41 : s32 3014 = (s 3014) := (f33 3014 (by decide))
          have b42 : 0 ≤ (s32 3014) ∧ (s32 3014) ≤ 32768 := hS32 3014
          have e43 : s32 3060 = (s 3060) := (f33 3060 (by decide))
          have b44 : 0 ≤ (s32 3060) ∧ (s32 3060) ≤ 255 := hS32 3060
          have e45 : s32 3057 = (s 3057) := (f33 3057 (by decide))
          have b46 : 0 ≤ (s32 3057) ∧ (s32 3057) ≤ 65535 := hS32 3057
          have e47 : s32 3058 = (s 3058) := (f33 3058 (by decide))
          have b48 : 0 ≤ (s32 3058) ∧ (s32 3058) ≤ 65535 := hS32 3058
          have hx49 : tpl A (s32 3014) (c 34) := by rw [f33 3014 (by decide)]; exact hp0
          have hff : s32 3050 ≠ 0 := by have h := k34 (by omega); omega
          have hno : ¬ okF A la := by have h := hp1 (by omega); unfold oH at h; rintro ⟨o1, o2, o3, o4, o5, o6, o7⟩; omega
          refine tt_mono (v_readFrameL (Zi := Zi) (D := D) (s := s32) (p := p) (c := c) (by omega) hS32 hC A la ln s3 n_ (by omega) (by omega) (by omega) (by omega) hx49 (fun h => absurd h (by omega)) (fun _ => hno) (show (s32 3050) = 0 → (s32 3049) = la + 8 ∧ (s32 3049) ≤ (s32 3014) by omega) (show la + 2 ≤ (s32 3049) by omega) (show (s32 3050) = 0 → ((s32 3057) = qW A la ∧ (s32 3058) = qH A la) ∧ (s32 3060) = qD A la by omega)) ?_
          rintro _ _ ⟨s50, c51, rfl, rfl, hS50, hC51, f52, g53, k54, k55, k56, k57, k58, k59⟩
          replace k56 : s50 3050 = 0 → s50 3049 = la + 8 + 3 * qP A la ∧ s50 3049 ≤ (s32 3014) := k56
          replace k59 : (s32 3049) ≤ s50 3049 := k59
          exact ⟨s50, c51, rfl, rfl, hS50, hC51, (fr_tr (fr_tr fr_rf f33 (by decide)) f52 (by decide)), (frc_tr frc_rf g53 (by decide)), k54, k55, by show (s50 3050) = 0 → (s50 3049) = la + 8 + 3 * qP A la ∧ (s50 3049) ≤ s 3014; intro hf; have h := k56 hf; omega, k57, k58, by show s 3049 ≤ (s50 3049); omega⟩
    · show tt Zi d 192 (82, [some (.inr (.inl 30)), some (.inl la), some (.inl ln), some (.inl s3), some (.inl n_), none, none], [], n, D, s, p, c) _
      refine tt_k 2 (S' := (85, [some (.inr (.inl 30)), some (.inl la), some (.inl ln), some (.inl s3), some (.inl n_), none, none], [.inl 3, .inl n_], n, D, s, p, c)) rfl ?_
      refine tb_eq (x := n_) (y := 3) rfl rfl (by omega) (fun h60 => ?_) (fun h60 => ?_)
      · show tt Zi d 192 (99, [some (.inr (.inl 30)), some (.inl la), some (.inl ln), some (.inl s3), some (.inl n_), none, none], [], n, D, s, p, c) _
        refine tt_k 2 (S' := (103, [some (.inr (.inl 30)), some (.inl la), some (.inl ln), some (.inl s3), some (.inl n_), none, none], [.inl (s 3050)], n, D, s, p, c)) rfl ?_
        refine tz_ne (x := (s 3050)) rfl rfl (by omega) (fun h61 => ?_) (fun h61 => ?_)
        · exfalso; omega
        · show tt Zi d 192 (106, [some (.inr (.inl 30)), some (.inl la), some (.inl ln), some (.inl s3), some (.inl n_), none, none], [], n, D, s, p, c) _
          refine tt_k 6 (S' := (114, [some (.inr (.inl 30)), some (.inl la), some (.inl ln), some (.inl s3), some (.inl n_), none, none], [.inl (8 + (3 * n_)), .inl ln], n, D, s, p, c)) rfl ?_
          refine tb_eq (x := ln) (y := (8 + (3 * n_))) rfl rfl (by omega) (fun h62 => ?_) (fun h62 => ?_)
          · show tt Zi d 192 (123, [some (.inr (.inl 30)), some (.inl la), some (.inl ln), some (.inl s3), some (.inl n_), none, none], [], n, D, s, p, c) _
            refine tt_mono (v_readFrameL (Zi := Zi) (D := D) (s := s) (p := p) (c := c) (by omega) hS hC A la ln s3 n_ (by omega) (by omega) (by omega) (by omega) hp0 (fun _ => by have h := hp1 (by omega); unfold oH at h; unfold oF; omega) (fun h => absurd h (by omega)) (show (s 3050) = 0 → (s 3049) = la + 8 ∧ (s 3049) ≤ (s 3014) by omega) (show la + 2 ≤ (s 3049) by omega) (show (s 3050) = 0 → ((s 3057) = qW A la ∧ (s 3058) = qH A la) ∧ (s 3060) = qD A la by omega)) ?_
            rintro _ _ ⟨s63, c64, rfl, rfl, hS63, hC64, f65, g66, k67, k68, k69, k70, k71, k72⟩
            replace k69 : s63 3050 = 0 → s63 3049 = la + 8 + 3 * qP A la ∧ s63 3049 ≤ (s 3014) := k69
            replace k72 : (s 3049) ≤ s63 3049 := k72
            exact ⟨s63, c64, rfl, rfl, hS63, hC64, (fr_tr fr_rf f65 (by decide)), (frc_tr frc_rf g66 (by decide)), k67, k68, by show (s63 3050) = 0 → (s63 3049) = la + 8 + 3 * qP A la ∧ (s63 3049) ≤ s 3014; intro hf; have h := k69 hf; omega, k70, k71, by show s 3049 ≤ (s63 3049); omega⟩
          · show tt Zi d 192 (117, [some (.inr (.inl 30)), some (.inl la), some (.inl ln), some (.inl s3), some (.inl n_), none, none], [], n, D, s, p, c) _
            refine tt_k 3 (S' := (120, [some (.inr (.inl 30)), some (.inl la), some (.inl ln), some (.inl s3), some (.inl n_), none, none], [.inl la, .inl 4, .inr (.inl 30)], n, D, s, p, c)) rfl ?_
            refine tt_cl (by omega) rfl (k_fail (Zi := Zi) (D := D) (s := s) (p := p) (c := c) (by omega) hS hC 4 la (by omega) (by omega)) ?_
            rintro _ _ ⟨s73, rfl, rfl, hS73, f74, k75, k76⟩
            show tt Zi d 192 (123, [some (.inr (.inl 30)), some (.inl la), some (.inl ln), some (.inl s3), some (.inl n_), none, none], [], n, D, s73, p, c) _
            replace k75 : ((s 3050) = 0 → (s73 3050) = 4 ∧ (s73 3051) = la) := k75
            replace k76 : ((s 3050) ≠ 0 → (s73 3050) = (s 3050) ∧ (s73 3051) = (s 3051)) := k76
            have b77 : 0 ≤ (s73 3050) ∧ (s73 3050) ≤ 8 := hS73 3050
            have b78 : -1 ≤ (s73 3051) ∧ (s73 3051) ≤ 32769 := hS73 3051
            have b79 : -1 ≤ (s 3051) ∧ (s 3051) ≤ 32769 := hS 3051
            have e80 : s73 3049 = (s 3049) := (f74 3049 (by decide))
            have b81 : 0 ≤ (s73 3049) ∧ (s73 3049) ≤ 32769 := hS73 3049
            have e82 : s73 3014 = (s 3014) := (f74 3014 (by decide))
            have b83 : 0 ≤ (s73 3014) ∧ (s73 3014) ≤ 32768 := hS73 3014
            have e84 : s73 3060 = (s 3060) := (f74 3060 (by decide))
            have b85 : 0 ≤ (s73 3060) ∧ (s73 3060) ≤ 255 := hS73 3060
            have e86 : s73 3057 = (s 3057) := (f74 3057 (by decide))
            have b87 : 0 ≤ (s73 3057) ∧ (s73 3057) ≤ 65535 := hS73 3057
            have e88 : s73 3058 = (s 3058) := (f74 3058 (by decide))
            have b89 : 0 ≤ (s73 3058) ∧ (s73 3058) ≤ 65535 := hS73 3058
            have hx90 : tpl A (s73 3014) (c 34) := by rw [f74 3014 (by decide)]; exact hp0
            have hff : s73 3050 ≠ 0 := by have h := k75 (by omega); omega
            have hno : ¬ okF A la := by have h := hp1 (by omega); unfold oH at h; rintro ⟨o1, o2, o3, o4, o5, o6, o7⟩; omega
            refine tt_mono (v_readFrameL (Zi := Zi) (D := D) (s := s73) (p := p) (c := c) (by omega) hS73 hC A la ln s3 n_ (by omega) (by omega) (by omega) (by omega) hx90 (fun h => absurd h (by omega)) (fun _ => hno) (show (s73 3050) = 0 → (s73 3049) = la + 8 ∧ (s73 3049) ≤ (s73 3014) by omega) (show la + 2 ≤ (s73 3049) by omega) (show (s73 3050) = 0 → ((s73 3057) = qW A la ∧ (s73 3058) = qH A la) ∧ (s73 3060) = qD A la by omega)) ?_
            rintro _ _ ⟨s91, c92, rfl, rfl, hS91, hC92, f93, g94, k95, k96, k97, k98, k99, k100⟩
            replace k97 : s91 3050 = 0 → s91 3049 = la + 8 + 3 * qP A la ∧ s91 3049 ≤ (s73 3014) := k97
            replace k100 : (s73 3049) ≤ s91 3049 := k100
            exact ⟨s91, c92, rfl, rfl, hS91, hC92, (fr_tr (fr_tr fr_rf f74 (by decide)) f93 (by decide)), (frc_tr frc_rf g94 (by decide)), k95, k96, by show (s91 3050) = 0 → (s91 3049) = la + 8 + 3 * qP A la ∧ (s91 3049) ≤ s 3014; intro hf; have h := k97 hf; omega, k98, k99, by show s 3049 ≤ (s91 3049); omega⟩
      · show tt Zi d 192 (88, [some (.inr (.inl 30)), some (.inl la), some (.inl ln), some (.inl s3), some (.inl n_), none, none], [], n, D, s, p, c) _
        refine tt_k 6 (S' := (96, [some (.inr (.inl 30)), some (.inl la), some (.inl ln), some (.inl s3), some (.inl n_), none, none], [.inl ((s 3049) - 1), .inl 5, .inr (.inl 30)], n, D, s, p, c)) rfl ?_
        refine tt_cl (by omega) rfl (k_fail (Zi := Zi) (D := D) (s := s) (p := p) (c := c) (by omega) hS hC 5 ((s 3049) - 1) (by omega) (by omega)) ?_
        rintro _ _ ⟨s101, rfl, rfl, hS101, f102, k103, k104⟩
        show tt Zi d 192 (99, [some (.inr (.inl 30)), some (.inl la), some (.inl ln), some (.inl s3), some (.inl n_), none, none], [], n, D, s101, p, c) _
        replace k103 : ((s 3050) = 0 → (s101 3050) = 5 ∧ (s101 3051) = ((s 3049) - 1)) := k103
        replace k104 : ((s 3050) ≠ 0 → (s101 3050) = (s 3050) ∧ (s101 3051) = (s 3051)) := k104
        have b105 : 0 ≤ (s101 3050) ∧ (s101 3050) ≤ 8 := hS101 3050
        have b106 : -1 ≤ (s101 3051) ∧ (s101 3051) ≤ 32769 := hS101 3051
        have b107 : -1 ≤ (s 3051) ∧ (s 3051) ≤ 32769 := hS 3051
        have e108 : s101 3049 = (s 3049) := (f102 3049 (by decide))
        have b109 : 0 ≤ (s101 3049) ∧ (s101 3049) ≤ 32769 := hS101 3049
        have e110 : s101 3014 = (s 3014) := (f102 3014 (by decide))
        have b111 : 0 ≤ (s101 3014) ∧ (s101 3014) ≤ 32768 := hS101 3014
        have e112 : s101 3060 = (s 3060) := (f102 3060 (by decide))
        have b113 : 0 ≤ (s101 3060) ∧ (s101 3060) ≤ 255 := hS101 3060
        have e114 : s101 3057 = (s 3057) := (f102 3057 (by decide))
        have b115 : 0 ≤ (s101 3057) ∧ (s101 3057) ≤ 65535 := hS101 3057
        have e116 : s101 3058 = (s 3058) := (f102 3058 (by decide))
        have b117 : 0 ≤ (s101 3058) ∧ (s101 3058) ≤ 65535 := hS101 3058
        have hx118 : tpl A (s101 3014) (c 34) := by rw [f102 3014 (by decide)]; exact hp0
        have hff : s101 3050 ≠ 0 := by have h := k103 (by omega); omega
        have hno : ¬ okF A la := by have h := hp1 (by omega); unfold oH at h; rintro ⟨o1, o2, o3, o4, o5, o6, o7⟩; omega
        refine tt_k 2 (S' := (103, [some (.inr (.inl 30)), some (.inl la), some (.inl ln), some (.inl s3), some (.inl n_), none, none], [.inl (s101 3050)], n, D, s101, p, c)) rfl ?_
        refine tz_ne (x := (s101 3050)) rfl rfl (by omega) (fun h119 => ?_) (fun h119 => ?_)
        · show tt Zi d 192 (123, [some (.inr (.inl 30)), some (.inl la), some (.inl ln), some (.inl s3), some (.inl n_), none, none], [], n, D, s101, p, c) _
          refine tt_mono (v_readFrameL (Zi := Zi) (D := D) (s := s101) (p := p) (c := c) (by omega) hS101 hC A la ln s3 n_ (by omega) (by omega) (by omega) (by omega) hx118 (fun h => absurd h (by omega)) (fun _ => hno) (show (s101 3050) = 0 → (s101 3049) = la + 8 ∧ (s101 3049) ≤ (s101 3014) by omega) (show la + 2 ≤ (s101 3049) by omega) (show (s101 3050) = 0 → ((s101 3057) = qW A la ∧ (s101 3058) = qH A la) ∧ (s101 3060) = qD A la by omega)) ?_
          rintro _ _ ⟨s120, c121, rfl, rfl, hS120, hC121, f122, g123, k124, k125, k126, k127, k128, k129⟩
          replace k126 : s120 3050 = 0 → s120 3049 = la + 8 + 3 * qP A la ∧ s120 3049 ≤ (s101 3014) := k126
          replace k129 : (s101 3049) ≤ s120 3049 := k129
          exact ⟨s120, c121, rfl, rfl, hS120, hC121, (fr_tr (fr_tr fr_rf f102 (by decide)) f122 (by decide)), (frc_tr frc_rf g123 (by decide)), k124, k125, by show (s120 3050) = 0 → (s120 3049) = la + 8 + 3 * qP A la ∧ (s120 3049) ≤ s 3014; intro hf; have h := k126 hf; omega, k127, k128, by show s 3049 ≤ (s120 3049); omega⟩
        · exfalso; omega
set_option maxRecDepth 100000 in
set_option maxHeartbeats 4000000 in
theorem v_readFrame {Zi : Nat → Option (Nat × (Nat → Int))} {d n : Nat} {D : Nat → Nat × Nat} {s : Nat → Int} {p : Nat → Nat} {c : Nat → Nat → Int} (hd : 5 ≤ d) (hS : bS s) (hC : bC D c) (A : TN) (la : Int) (ln : Int) (b_la : 0 ≤ la ∧ la ≤ 32769) (b_ln : 0 ≤ ln ∧ ln ≤ 65535) (hp0 : tpl A (s 3014) (c 34)) (hp1 : s 3050 = 0) (hp2 : s 3049 = la + 2) (hp3 : gT A la = ln) : tt Zi d 192 (0, [some (.inr (.inl 30)), some (.inl la), some (.inl ln), none, none, none, none], [], n, D, s, p, c) (fun R H => ∃ (s' : Nat → Int) (c' : Nat → Nat → Int), R = .inl none ∧ H = (n, D, s', p, c') ∧ bS s' ∧ bC D c' ∧ fr s s' [3049, 3050, 3051, 3057, 3058, 3059, 3060] ∧ frc c c' [45] ∧ (s' 3050 = 0 → okF A la) ∧ (s' 3050 ≠ 0 → ¬ okF A la) ∧ (s' 3050 = 0 → s' 3049 = la + 8 + 3 * qP A la ∧ s' 3049 ≤ s 3014) ∧ (s' 3050 = 0 → (s' 3057 = qW A la ∧ s' 3058 = qH A la) ∧ (s' 3059 = qP A la ∧ s' 3060 = qD A la)) ∧ (s' 3050 = 0 → ∀ j : Int, 0 ≤ j → j < qP A la → c' 45 j.toNat = qN A la j) ∧ (s 3049 ≤ s' 3049)) := by
  have hA := hp0.1
  have b1 : 0 ≤ (s 3049) ∧ (s 3049) ≤ 32769 := hS 3049
  have b2 : 0 ≤ (s 3014) ∧ (s 3014) ≤ 32768 := hS 3014
  have b3 : 0 ≤ (s 3050) ∧ (s 3050) ≤ 8 := hS 3050
  have G0 : s 3050 = 0 → s 3049 = la + 2 := fun _ => hp2
  have B0 : ¬ s 3050 = 0 → ¬ okF A la := fun h => absurd hp1 h
  refine tt_k 3 (S' := (3, [some (.inr (.inl 30)), some (.inl la), some (.inl ln), none, none, none, none], [.inr (.inl 30), .inr (.inl 30), .inr (.inl 30)], n, D, s, p, c)) rfl ?_
  refine tt_cl (by omega) rfl (v_nextByte (Zi := Zi) (D := D) (s := s) (p := p) (c := c) (by omega) hS hC A hp0) ?_
  rintro _ _ ⟨s4, r5, rfl, rfl, hS4, f6, b7, k8, k9, k10, k11⟩
  show tt Zi d 192 (6, [some (.inr (.inl 30)), some (.inl la), some (.inl ln), none, none, none, none], [.inl r5, .inr (.inl 30), .inr (.inl 30)], n, D, s4, p, c) _
  replace k8 : (s4 3050) = 0 → ((s 3049) < A.2 ∧ gB A ((s 3049)) = r5) ∧ (s4 3049) = (s 3049) + 1 ∧ (s4 3049) ≤ (s 3014) := k8
  replace k9 : (s 3050) = 0 → (s4 3050) ≠ 0 → A.2 ≤ (s 3049) := k9
  replace k10 : (s 3050) ≠ 0 → (s4 3050) ≠ 0 := k10
  replace k11 : (s 3049) ≤ (s4 3049) := k11
  have b12 : 0 ≤ (s4 3050) ∧ (s4 3050) ≤ 8 := hS4 3050
  have b13 : 0 ≤ (s4 3049) ∧ (s4 3049) ≤ 32769 := hS4 3049
  have e14 : s4 3014 = (s 3014) := (f6 3014 (by decide))
  have b15 : 0 ≤ (s4 3014) ∧ (s4 3014) ≤ 32768 := hS4 3014
  have e16 : s4 3060 = (s 3060) := (f6 3060 (by decide))
  have b17 : 0 ≤ (s4 3060) ∧ (s4 3060) ≤ 255 := hS4 3060
  have b18 : 0 ≤ (s 3060) ∧ (s 3060) ≤ 255 := hS 3060
  have e19 : s4 3057 = (s 3057) := (f6 3057 (by decide))
  have b20 : 0 ≤ (s4 3057) ∧ (s4 3057) ≤ 65535 := hS4 3057
  have b21 : 0 ≤ (s 3057) ∧ (s 3057) ≤ 65535 := hS 3057
  have e22 : s4 3058 = (s 3058) := (f6 3058 (by decide))
  have b23 : 0 ≤ (s4 3058) ∧ (s4 3058) ≤ 65535 := hS4 3058
  have b24 : 0 ≤ (s 3058) ∧ (s 3058) ≤ 65535 := hS 3058
  have hx25 : tpl A (s4 3014) (c 34) := by rw [f6 3014 (by decide)]; exact hp0
  have G1 : (s4 3050) = 0 → ((s4 3049) = la + 3 ∧ (s4 3049) ≤ s 3014) ∧ qD A la = r5 := fun hf => by have h0 := G0 (by omega); have h1 := k8 hf; rw [show (s 3049) = la + 2 by omega] at h1; have h9 : qD A la = r5 := h1.1.2; omega
  have B1 : ¬ (s4 3050) = 0 → ¬ okF A la := fun hf => if hz : (s 3050) = 0 then (by have h0 := G0 hz; have h1 := k9 hz hf; rw [show (s 3049) = la + 2 by omega] at h1; rintro ⟨o1, o2, o3, o4, o5, o6, o7⟩; omega) else B0 hz
  clear G0 B0 k8 k9 k10
  refine tt_k 6 (S' := (15, [some (.inr (.inl 30)), some (.inl la), some (.inl ln), none, none, none, none], [.inl 16, .inl 2, .inl ((s4 3049) - 1), .inl r5, .inr (.inl 30), .inr (.inl 30)], n, D, s4, p, c)) rfl ?_
  refine tt_cl (by omega) rfl (v_between (Zi := Zi) (D := D) (s := s4) (p := p) (c := c) (by omega) hS4 hC r5 ((s4 3049) - 1) 2 16 (by omega) (by omega) (by omega) (by omega)) ?_
  rintro _ _ ⟨s26, r27, rfl, rfl, hS26, f28, b29, k30, k31, k32, k33⟩
  show tt Zi d 192 (18, [some (.inr (.inl 30)), some (.inl la), some (.inl ln), none, none, none, none], [.inl r27, .inr (.inl 30)], n, D, s26, p, c) _
  replace k30 : r27 = r5 := k30
  replace k31 : (s4 3050) ≠ 0 → (s26 3050) ≠ 0 := k31
  replace k32 : (s26 3050) = 0 → 2 ≤ r5 ∧ r5 ≤ 16 := k32
  replace k33 : (s4 3050) = 0 → (s26 3050) ≠ 0 → ¬ (2 ≤ r5 ∧ r5 ≤ 16) := k33
  have b34 : 0 ≤ (s26 3050) ∧ (s26 3050) ≤ 8 := hS26 3050
  have e35 : s26 3049 = (s4 3049) := (f28 3049 (by decide))
  have b36 : 0 ≤ (s26 3049) ∧ (s26 3049) ≤ 32769 := hS26 3049
  have e37 : s26 3014 = (s4 3014) := (f28 3014 (by decide))
  have b38 : 0 ≤ (s26 3014) ∧ (s26 3014) ≤ 32768 := hS26 3014
  have e39 : s26 3060 = (s4 3060) := (f28 3060 (by decide))
  have b40 : 0 ≤ (s26 3060) ∧ (s26 3060) ≤ 255 := hS26 3060
  have e41 : s26 3057 = (s4 3057) := (f28 3057 (by decide))
  have b42 : 0 ≤ (s26 3057) ∧ (s26 3057) ≤ 65535 := hS26 3057
  have e43 : s26 3058 = (s4 3058) := (f28 3058 (by decide))
  have b44 : 0 ≤ (s26 3058) ∧ (s26 3058) ≤ 65535 := hS26 3058
  have hx45 : tpl A (s26 3014) (c 34) := by rw [f28 3014 (by decide)]; exact hx25
  have G2 : (s26 3050) = 0 → ((s26 3049) = la + 3 ∧ (s26 3049) ≤ s 3014) ∧ qD A la = r5 ∧ (2 ≤ qD A la ∧ qD A la ≤ 16) := fun hf => by have h0 := G1 (by omega); have h1 := k32 hf; omega
  have B2 : ¬ (s26 3050) = 0 → ¬ okF A la := fun hf => if hz : (s4 3050) = 0 then (by have h0 := G1 hz; have h1 := k33 hz hf; rintro ⟨o1, o2, o3, o4, o5, o6, o7⟩; omega) else B1 hz
  clear G1 B1 k31 k32 k33
  refine tt_k 7 (S' := (29, [some (.inr (.inl 30)), some (.inl la), some (.inl ln), some (.inl (s26 3049)), none, none, none], [.inr (.inl 30), .inr (.inl 30), .inr (.inl 30)], n, D, (us s26 3060 r27), p, c)) rfl ?_
  refine tt_cl (by omega) rfl (v_nextTwo (Zi := Zi) (D := D) (s := (us s26 3060 r27)) (p := p) (c := c) (by omega) (bS_us hS26 (show 0 ≤ r27 ∧ r27 ≤ 255 by omega)) hC A hx45) ?_
  rintro _ _ ⟨s46, r47, rfl, rfl, hS46, f48, b49, k50, k51, k52, k53⟩
  show tt Zi d 192 (32, [some (.inr (.inl 30)), some (.inl la), some (.inl ln), some (.inl (s26 3049)), none, none, none], [.inl r47, .inr (.inl 30), .inr (.inl 30)], n, D, s46, p, c) _
  replace k50 : (s46 3050) = 0 → ((s26 3049) + 1 < A.2 ∧ gT A ((s26 3049)) = r47) ∧ (s46 3049) = (s26 3049) + 2 ∧ (s46 3049) ≤ (s26 3014) := k50
  replace k51 : (s26 3050) = 0 → (s46 3050) ≠ 0 → A.2 ≤ (s26 3049) + 1 := k51
  replace k52 : (s26 3050) ≠ 0 → (s46 3050) ≠ 0 := k52
  replace k53 : (s26 3049) ≤ (s46 3049) := k53
  have b54 : 0 ≤ (s46 3050) ∧ (s46 3050) ≤ 8 := hS46 3050
  have b55 : 0 ≤ (s46 3049) ∧ (s46 3049) ≤ 32769 := hS46 3049
  have e56 : s46 3014 = (s26 3014) := (f48 3014 (by decide))
  have b57 : 0 ≤ (s46 3014) ∧ (s46 3014) ≤ 32768 := hS46 3014
  have e58 : s46 3060 = r27 := (f48 3060 (by decide))
  have b59 : 0 ≤ (s46 3060) ∧ (s46 3060) ≤ 255 := hS46 3060
  have e60 : s46 3057 = (s26 3057) := (f48 3057 (by decide))
  have b61 : 0 ≤ (s46 3057) ∧ (s46 3057) ≤ 65535 := hS46 3057
  have e62 : s46 3058 = (s26 3058) := (f48 3058 (by decide))
  have b63 : 0 ≤ (s46 3058) ∧ (s46 3058) ≤ 65535 := hS46 3058
  have hx64 : tpl A (s46 3014) (c 34) := by rw [f48 3014 (by decide)]; exact hx45
  have G3 : (s46 3050) = 0 → ((s46 3049) = la + 5 ∧ (s46 3049) ≤ s 3014) ∧ qD A la = r5 ∧ (2 ≤ qD A la ∧ qD A la ≤ 16) ∧ qH A la = r47 := fun hf => by have h0 := G2 (by omega); have h1 := k50 hf; rw [show (s26 3049) = la + 3 by omega] at h1; have h9 : qH A la = r47 := h1.1.2; omega
  have B3 : ¬ (s46 3050) = 0 → ¬ okF A la := fun hf => if hz : (s26 3050) = 0 then (by have h0 := G2 hz; have h1 := k51 hz hf; rw [show (s26 3049) = la + 3 by omega] at h1; rintro ⟨o1, o2, o3, o4, o5, o6, o7⟩; omega) else B2 hz
  clear G2 B2 k50 k51 k52
  refine tt_k 3 (S' := (36, [some (.inr (.inl 30)), some (.inl la), some (.inl ln), some (.inl (s26 3049)), none, none, none], [.inl 64, .inl 1, .inl (s26 3049), .inl r47, .inr (.inl 30), .inr (.inl 30)], n, D, s46, p, c)) rfl ?_
  refine tt_cl (by omega) rfl (v_between (Zi := Zi) (D := D) (s := s46) (p := p) (c := c) (by omega) hS46 hC r47 (s26 3049) 1 64 (by omega) (by omega) (by omega) (by omega)) ?_
  rintro _ _ ⟨s65, r66, rfl, rfl, hS65, f67, b68, k69, k70, k71, k72⟩
  show tt Zi d 192 (39, [some (.inr (.inl 30)), some (.inl la), some (.inl ln), some (.inl (s26 3049)), none, none, none], [.inl r66, .inr (.inl 30)], n, D, s65, p, c) _
  replace k69 : r66 = r47 := k69
  replace k70 : (s46 3050) ≠ 0 → (s65 3050) ≠ 0 := k70
  replace k71 : (s65 3050) = 0 → 1 ≤ r47 ∧ r47 ≤ 64 := k71
  replace k72 : (s46 3050) = 0 → (s65 3050) ≠ 0 → ¬ (1 ≤ r47 ∧ r47 ≤ 64) := k72
  have b73 : 0 ≤ (s65 3050) ∧ (s65 3050) ≤ 8 := hS65 3050
  have e74 : s65 3049 = (s46 3049) := (f67 3049 (by decide))
  have b75 : 0 ≤ (s65 3049) ∧ (s65 3049) ≤ 32769 := hS65 3049
  have e76 : s65 3014 = (s46 3014) := (f67 3014 (by decide))
  have b77 : 0 ≤ (s65 3014) ∧ (s65 3014) ≤ 32768 := hS65 3014
  have e78 : s65 3060 = (s46 3060) := (f67 3060 (by decide))
  have b79 : 0 ≤ (s65 3060) ∧ (s65 3060) ≤ 255 := hS65 3060
  have e80 : s65 3057 = (s46 3057) := (f67 3057 (by decide))
  have b81 : 0 ≤ (s65 3057) ∧ (s65 3057) ≤ 65535 := hS65 3057
  have e82 : s65 3058 = (s46 3058) := (f67 3058 (by decide))
  have b83 : 0 ≤ (s65 3058) ∧ (s65 3058) ≤ 65535 := hS65 3058
  have hx84 : tpl A (s65 3014) (c 34) := by rw [f67 3014 (by decide)]; exact hx64
  have G4 : (s65 3050) = 0 → ((s65 3049) = la + 5 ∧ (s65 3049) ≤ s 3014) ∧ qD A la = r5 ∧ (2 ≤ qD A la ∧ qD A la ≤ 16) ∧ qH A la = r47 ∧ (1 ≤ qH A la ∧ qH A la ≤ 64) := fun hf => by have h0 := G3 (by omega); have h1 := k71 hf; omega
  have B4 : ¬ (s65 3050) = 0 → ¬ okF A la := fun hf => if hz : (s46 3050) = 0 then (by have h0 := G3 hz; have h1 := k72 hz hf; rintro ⟨o1, o2, o3, o4, o5, o6, o7⟩; omega) else B3 hz
  clear G3 B3 k70 k71 k72
  refine tt_k 7 (S' := (50, [some (.inr (.inl 30)), some (.inl la), some (.inl ln), some (.inl (s65 3049)), none, none, none], [.inr (.inl 30), .inr (.inl 30), .inr (.inl 30)], n, D, (us s65 3058 r66), p, c)) rfl ?_
  refine tt_cl (by omega) rfl (v_nextTwo (Zi := Zi) (D := D) (s := (us s65 3058 r66)) (p := p) (c := c) (by omega) (bS_us hS65 (show 0 ≤ r66 ∧ r66 ≤ 65535 by omega)) hC A hx84) ?_
  rintro _ _ ⟨s85, r86, rfl, rfl, hS85, f87, b88, k89, k90, k91, k92⟩
  show tt Zi d 192 (53, [some (.inr (.inl 30)), some (.inl la), some (.inl ln), some (.inl (s65 3049)), none, none, none], [.inl r86, .inr (.inl 30), .inr (.inl 30)], n, D, s85, p, c) _
  replace k89 : (s85 3050) = 0 → ((s65 3049) + 1 < A.2 ∧ gT A ((s65 3049)) = r86) ∧ (s85 3049) = (s65 3049) + 2 ∧ (s85 3049) ≤ (s65 3014) := k89
  replace k90 : (s65 3050) = 0 → (s85 3050) ≠ 0 → A.2 ≤ (s65 3049) + 1 := k90
  replace k91 : (s65 3050) ≠ 0 → (s85 3050) ≠ 0 := k91
  replace k92 : (s65 3049) ≤ (s85 3049) := k92
  have b93 : 0 ≤ (s85 3050) ∧ (s85 3050) ≤ 8 := hS85 3050
  have b94 : 0 ≤ (s85 3049) ∧ (s85 3049) ≤ 32769 := hS85 3049
  have e95 : s85 3014 = (s65 3014) := (f87 3014 (by decide))
  have b96 : 0 ≤ (s85 3014) ∧ (s85 3014) ≤ 32768 := hS85 3014
  have e97 : s85 3060 = (s65 3060) := (f87 3060 (by decide))
  have b98 : 0 ≤ (s85 3060) ∧ (s85 3060) ≤ 255 := hS85 3060
  have e99 : s85 3057 = (s65 3057) := (f87 3057 (by decide))
  have b100 : 0 ≤ (s85 3057) ∧ (s85 3057) ≤ 65535 := hS85 3057
  have e101 : s85 3058 = r66 := (f87 3058 (by decide))
  have b102 : 0 ≤ (s85 3058) ∧ (s85 3058) ≤ 65535 := hS85 3058
  have hx103 : tpl A (s85 3014) (c 34) := by rw [f87 3014 (by decide)]; exact hx84
  have G5 : (s85 3050) = 0 → ((s85 3049) = la + 7 ∧ (s85 3049) ≤ s 3014) ∧ qD A la = r5 ∧ (2 ≤ qD A la ∧ qD A la ≤ 16) ∧ qH A la = r47 ∧ (1 ≤ qH A la ∧ qH A la ≤ 64) ∧ qW A la = r86 := fun hf => by have h0 := G4 (by omega); have h1 := k89 hf; rw [show (s65 3049) = la + 5 by omega] at h1; have h9 : qW A la = r86 := h1.1.2; omega
  have B5 : ¬ (s85 3050) = 0 → ¬ okF A la := fun hf => if hz : (s65 3050) = 0 then (by have h0 := G4 hz; have h1 := k90 hz hf; rw [show (s65 3049) = la + 5 by omega] at h1; rintro ⟨o1, o2, o3, o4, o5, o6, o7⟩; omega) else B4 hz
  clear G4 B4 k89 k90 k91
  refine tt_k 3 (S' := (57, [some (.inr (.inl 30)), some (.inl la), some (.inl ln), some (.inl (s65 3049)), none, none, none], [.inl 64, .inl 1, .inl (s65 3049), .inl r86, .inr (.inl 30), .inr (.inl 30)], n, D, s85, p, c)) rfl ?_
  refine tt_cl (by omega) rfl (v_between (Zi := Zi) (D := D) (s := s85) (p := p) (c := c) (by omega) hS85 hC r86 (s65 3049) 1 64 (by omega) (by omega) (by omega) (by omega)) ?_
  rintro _ _ ⟨s104, r105, rfl, rfl, hS104, f106, b107, k108, k109, k110, k111⟩
  show tt Zi d 192 (60, [some (.inr (.inl 30)), some (.inl la), some (.inl ln), some (.inl (s65 3049)), none, none, none], [.inl r105, .inr (.inl 30)], n, D, s104, p, c) _
  replace k108 : r105 = r86 := k108
  replace k109 : (s85 3050) ≠ 0 → (s104 3050) ≠ 0 := k109
  replace k110 : (s104 3050) = 0 → 1 ≤ r86 ∧ r86 ≤ 64 := k110
  replace k111 : (s85 3050) = 0 → (s104 3050) ≠ 0 → ¬ (1 ≤ r86 ∧ r86 ≤ 64) := k111
  have b112 : 0 ≤ (s104 3050) ∧ (s104 3050) ≤ 8 := hS104 3050
  have e113 : s104 3049 = (s85 3049) := (f106 3049 (by decide))
  have b114 : 0 ≤ (s104 3049) ∧ (s104 3049) ≤ 32769 := hS104 3049
  have e115 : s104 3014 = (s85 3014) := (f106 3014 (by decide))
  have b116 : 0 ≤ (s104 3014) ∧ (s104 3014) ≤ 32768 := hS104 3014
  have e117 : s104 3060 = (s85 3060) := (f106 3060 (by decide))
  have b118 : 0 ≤ (s104 3060) ∧ (s104 3060) ≤ 255 := hS104 3060
  have e119 : s104 3057 = (s85 3057) := (f106 3057 (by decide))
  have b120 : 0 ≤ (s104 3057) ∧ (s104 3057) ≤ 65535 := hS104 3057
  have e121 : s104 3058 = (s85 3058) := (f106 3058 (by decide))
  have b122 : 0 ≤ (s104 3058) ∧ (s104 3058) ≤ 65535 := hS104 3058
  have hx123 : tpl A (s104 3014) (c 34) := by rw [f106 3014 (by decide)]; exact hx103
  have G6 : (s104 3050) = 0 → ((s104 3049) = la + 7 ∧ (s104 3049) ≤ s 3014) ∧ qD A la = r5 ∧ (2 ≤ qD A la ∧ qD A la ≤ 16) ∧ qH A la = r47 ∧ (1 ≤ qH A la ∧ qH A la ≤ 64) ∧ qW A la = r86 ∧ (1 ≤ qW A la ∧ qW A la ≤ 64) := fun hf => by have h0 := G5 (by omega); have h1 := k110 hf; omega
  have B6 : ¬ (s104 3050) = 0 → ¬ okF A la := fun hf => if hz : (s85 3050) = 0 then (by have h0 := G5 hz; have h1 := k111 hz hf; rintro ⟨o1, o2, o3, o4, o5, o6, o7⟩; omega) else B5 hz
  clear G5 B5 k109 k110 k111
  refine tt_k 2 (S' := (64, [some (.inr (.inl 30)), some (.inl la), some (.inl ln), some (.inl (s65 3049)), none, none, none], [.inr (.inl 30)], n, D, (us s104 3057 r105), p, c)) rfl ?_
  refine tt_cl (by omega) rfl (v_nextByte (Zi := Zi) (D := D) (s := (us s104 3057 r105)) (p := p) (c := c) (by omega) (bS_us hS104 (show 0 ≤ r105 ∧ r105 ≤ 65535 by omega)) hC A hx123) ?_
  rintro _ _ ⟨s124, r125, rfl, rfl, hS124, f126, b127, k128, k129, k130, k131⟩
  show tt Zi d 192 (67, [some (.inr (.inl 30)), some (.inl la), some (.inl ln), some (.inl (s65 3049)), none, none, none], [.inl r125], n, D, s124, p, c) _
  replace k128 : (s124 3050) = 0 → ((s104 3049) < A.2 ∧ gB A ((s104 3049)) = r125) ∧ (s124 3049) = (s104 3049) + 1 ∧ (s124 3049) ≤ (s104 3014) := k128
  replace k129 : (s104 3050) = 0 → (s124 3050) ≠ 0 → A.2 ≤ (s104 3049) := k129
  replace k130 : (s104 3050) ≠ 0 → (s124 3050) ≠ 0 := k130
  replace k131 : (s104 3049) ≤ (s124 3049) := k131
  have b132 : 0 ≤ (s124 3050) ∧ (s124 3050) ≤ 8 := hS124 3050
  have b133 : 0 ≤ (s124 3049) ∧ (s124 3049) ≤ 32769 := hS124 3049
  have e134 : s124 3014 = (s104 3014) := (f126 3014 (by decide))
  have b135 : 0 ≤ (s124 3014) ∧ (s124 3014) ≤ 32768 := hS124 3014
  have e136 : s124 3060 = (s104 3060) := (f126 3060 (by decide))
  have b137 : 0 ≤ (s124 3060) ∧ (s124 3060) ≤ 255 := hS124 3060
  have e138 : s124 3057 = r105 := (f126 3057 (by decide))
  have b139 : 0 ≤ (s124 3057) ∧ (s124 3057) ≤ 65535 := hS124 3057
  have e140 : s124 3058 = (s104 3058) := (f126 3058 (by decide))
  have b141 : 0 ≤ (s124 3058) ∧ (s124 3058) ≤ 65535 := hS124 3058
  have hx142 : tpl A (s124 3014) (c 34) := by rw [f126 3014 (by decide)]; exact hx123
  have G7 : (s124 3050) = 0 → ((s124 3049) = la + 8 ∧ (s124 3049) ≤ s 3014) ∧ qD A la = r5 ∧ (2 ≤ qD A la ∧ qD A la ≤ 16) ∧ qH A la = r47 ∧ (1 ≤ qH A la ∧ qH A la ≤ 64) ∧ qW A la = r86 ∧ (1 ≤ qW A la ∧ qW A la ≤ 64) ∧ qP A la = r125 := fun hf => by have h0 := G6 (by omega); have h1 := k128 hf; rw [show (s104 3049) = la + 7 by omega] at h1; have h9 : qP A la = r125 := h1.1.2; omega
  have B7 : ¬ (s124 3050) = 0 → ¬ okF A la := fun hf => if hz : (s104 3050) = 0 then (by have h0 := G6 hz; have h1 := k129 hz hf; rw [show (s104 3049) = la + 7 by omega] at h1; rintro ⟨o1, o2, o3, o4, o5, o6, o7⟩; omega) else B6 hz
  clear G6 B6 k128 k129 k130
  refine tt_k 1 (S' := (69, [some (.inr (.inl 30)), some (.inl la), some (.inl ln), some (.inl (s65 3049)), some (.inl r125), none, none], [], n, D, s124, p, c)) rfl ?_
  refine tt_mono (v_readFrameB (Zi := Zi) (D := D) (s := s124) (p := p) (c := c) (by omega) hS124 hC A la ln (s65 3049) r125 (by omega) (by omega) (by omega) (by omega) hx142 (fun hf => by have h := G7 hf; unfold oH; omega) B7 (fun hf => by have h := G7 hf; omega) (show la + 2 ≤ (s124 3049) by omega) (fun hf => by have h := G7 hf; omega) hp3) ?_
  rintro _ _ ⟨s143, c144, rfl, rfl, hS143, hC144, f145, g146, k147, k148, k149, k150, k151, k152⟩
  replace k149 : s143 3050 = 0 → s143 3049 = la + 8 + 3 * qP A la ∧ s143 3049 ≤ (s124 3014) := k149
  replace k152 : (s124 3049) ≤ s143 3049 := k152
  exact ⟨s143, c144, rfl, rfl, hS143, hC144, (fr_tr (fr_tr (fr_us (by decide) (fr_tr (fr_tr (fr_us (by decide) (fr_tr (fr_tr (fr_us (by decide) (fr_tr (fr_tr fr_rf f6 (by decide)) f28 (by decide))) f48 (by decide)) f67 (by decide))) f87 (by decide)) f106 (by decide))) f126 (by decide)) f145 (by decide)), (frc_tr frc_rf g146 (by decide)), k147, k148, by show (s143 3050) = 0 → (s143 3049) = la + 8 + 3 * qP A la ∧ (s143 3049) ≤ s 3014; intro hf; have h := k149 hf; omega, k150, k151, by show s 3049 ≤ (s143 3049); omega⟩
