/-! the reference reads measures -/
set_option maxRecDepth 100000 in
set_option maxHeartbeats 4000000 in
theorem k_readMeasures_L7 {Zi : Nat → Option (Nat × (Nat → Int))} {d n : Nat} {D : Nat → Nat × Nat} {s : Nat → Int} {p : Nat → Nat} {c : Nat → Nat → Int}  {Q : mi_Rs → mi_H → Prop} (hd : 3 ≤ d) (hS : bS s) (hC : bC D c) 
  (hK : ∀ (k : Int) (s0 : Nat → Int) (c0 : Nat → Nat → Int) (b_k : 0 ≤ k ∧ k ≤ 5) (hS0 : bS s0) (hF0 : fr s s0 [3049, 3050, 3051]) (hC0 : bC D c0) (hG0 : frc c c0 [46]) (i0 : s 3049 ≤ s0 3049) (i1 : s 3050 ≠ 0 → s0 3050 ≠ 0), True → tt Zi d 195 (35, [some (.inr (.inl 30)), some (.inl k)], [], n, D, s0, p, c0) Q) :
  ∀ (m : Nat) (k : Int) (s0 : Nat → Int) (c0 : Nat → Nat → Int) (b_k : 0 ≤ k ∧ k ≤ 5) (hS0 : bS s0) (hF0 : fr s s0 [3049, 3050, 3051]) (hC0 : bC D c0) (hG0 : frc c c0 [46]) (i0 : s 3049 ≤ s0 3049) (i1 : s 3050 ≠ 0 → s0 3050 ≠ 0), (5 - k).toNat < m → tt Zi d 195 (7, [some (.inr (.inl 30)), some (.inl k)], [], n, D, s0, p, c0) Q := by
  intro m
  induction m with
  | zero => intro k s0 c0 b_k hS0 hF0 hC0 hG0 i0 i1 hm; exact absurd hm (by omega)
  | succ m ih =>
    intro k s0 c0 b_k hS0 hF0 hC0 hG0 i0 i1 hm
    refine tt_k 2 (S' := (9, [some (.inr (.inl 30)), some (.inl k)], [.inl 5, .inl k], n, D, s0, p, c0)) rfl ?_
    refine tb_ge (x := k) (y := 5) rfl rfl (by omega) (fun h1 => ?_) (fun h1 => ?_)
    · show tt Zi d 195 (35, [some (.inr (.inl 30)), some (.inl k)], [], n, D, s0, p, c0) _
      exact hK k s0 c0 (by omega) hS0 hF0 hC0 hG0 (show s 3049 ≤ (s0 3049) by omega) (show s 3050 ≠ 0 → (s0 3050) ≠ 0 by omega) trivial
    · show tt Zi d 195 (12, [some (.inr (.inl 30)), some (.inl k)], [], n, D, s0, p, c0) _
      refine tt_k 2 (S' := (16, [some (.inr (.inl 30)), some (.inl k)], [.inl (s0 3050)], n, D, s0, p, c0)) rfl ?_
      have b2 : 0 ≤ (s0 3050) ∧ (s0 3050) ≤ 8 := hS0 3050
      refine tz_ne (x := (s0 3050)) rfl rfl (by omega) (fun h3 => ?_) (fun h3 => ?_)
      · show tt Zi d 195 (35, [some (.inr (.inl 30)), some (.inl k)], [], n, D, s0, p, c0) _
        exact hK k s0 c0 (by omega) hS0 hF0 hC0 hG0 (show s 3049 ≤ (s0 3049) by omega) (show s 3050 ≠ 0 → (s0 3050) ≠ 0 by omega) trivial
      · show tt Zi d 195 (19, [some (.inr (.inl 30)), some (.inl k)], [], n, D, s0, p, c0) _
        refine tt_k 4 (S' := (25, [some (.inr (.inl 30)), some (.inl k)], [.inr (.inl 30), .inl k, .inr (.inl 46)], n, D, s0, p, c0)) rfl ?_
        refine tt_cl (by omega) rfl (k_nextTwo (Zi := Zi) (D := D) (s := s0) (p := p) (c := c0) (by omega) hS0 hC0 ) ?_
        rintro _ _ ⟨s4, r5, rfl, rfl, hS4, f6, b7, k8, k9, k10⟩
        show tt Zi d 195 (28, [some (.inr (.inl 30)), some (.inl k)], [.inl r5, .inl k, .inr (.inl 46)], n, D, s4, p, c0) _
        have k8 : (s0 3049) ≤ (s4 3049) := k8
        have k9 : (s0 3050) ≠ 0 → (s4 3050) ≠ 0 := k9
        have k10 : (s4 3050) = 0 → (s4 3049) = (s0 3049) + 2 ∧ (s4 3049) ≤ (s0 3014) := k10
        have b11 : 0 ≤ (s0 3049) ∧ (s0 3049) ≤ 32769 := hS0 3049
        have b12 : 0 ≤ (s4 3049) ∧ (s4 3049) ≤ 32769 := hS4 3049
        have b13 : 0 ≤ (s4 3050) ∧ (s4 3050) ≤ 8 := hS4 3050
        have b14 : 0 ≤ (s0 3014) ∧ (s0 3014) ≤ 32768 := hS0 3014
        refine tt_ist (i := k) (x := r5) rfl rfl (by omega) ?_
        show tt Zi d 195 (29, [some (.inr (.inl 30)), some (.inl k)], [], n, D, s4, p, (uc c0 46 (ua (c0 46) (k).toNat r5))) _
        refine tt_k 2 (S' := (7, [some (.inr (.inl 30)), some (.inl (k + 1))], [], n, D, s4, p, (uc c0 46 (ua (c0 46) (k).toNat r5)))) rfl ?_
        exact ih (k + 1) s4 (uc c0 46 (ua (c0 46) (k).toNat r5)) (by omega) hS4 (fr_tr hF0 f6 (by decide)) (bC_st hC0 (show 0 ≤ r5 ∧ r5 ≤ 65535 by omega)) (frc_uc (by decide) hG0) (show s 3049 ≤ (s4 3049) by omega) (show s 3050 ≠ 0 → (s4 3050) ≠ 0 by omega) (show (5 - (k + 1)).toNat < m by omega)
set_option maxRecDepth 100000 in
set_option maxHeartbeats 4000000 in
theorem k_readMeasures {Zi : Nat → Option (Nat × (Nat → Int))} {d n : Nat} {D : Nat → Nat × Nat} {s : Nat → Int} {p : Nat → Nat} {c : Nat → Nat → Int} (hd : 3 ≤ d) (hS : bS s) (hC : bC D c)  : tt Zi d 195 (0, [some (.inr (.inl 30)), none], [], n, D, s, p, c) (fun R H => ∃ (s' : Nat → Int) (c' : Nat → Nat → Int), R = .inl none ∧ H = (n, D, s', p, c') ∧ bS s' ∧ bC D c' ∧ fr s s' [3049, 3050, 3051] ∧ frc c c' [46] ∧ (s 3049 ≤ s' 3049) ∧ (s 3050 ≠ 0 → s' 3050 ≠ 0)) := by
  refine tt_k 2 (S' := (2, [some (.inr (.inl 30)), none], [.inl 1, .inr (.inl 30)], n, D, s, p, c)) rfl ?_
  refine tt_cl (by omega) rfl (k_want (Zi := Zi) (D := D) (s := s) (p := p) (c := c) (by omega) hS hC 1 (by omega)) ?_
  rintro _ _ ⟨s1, rfl, rfl, hS1, f2, k3, k4, k5⟩
  show tt Zi d 195 (5, [some (.inr (.inl 30)), none], [], n, D, s1, p, c) _
  have k3 : (s 3049) ≤ (s1 3049) := k3
  have k4 : (s 3050) ≠ 0 → (s1 3050) ≠ 0 := k4
  have k5 : (s1 3050) = 0 → (s1 3049) ≤ (s 3014) := k5
  have b6 : 0 ≤ (s 3049) ∧ (s 3049) ≤ 32769 := hS 3049
  have b7 : 0 ≤ (s1 3049) ∧ (s1 3049) ≤ 32769 := hS1 3049
  have b8 : 0 ≤ (s 3050) ∧ (s 3050) ≤ 8 := hS 3050
  have b9 : 0 ≤ (s1 3050) ∧ (s1 3050) ≤ 8 := hS1 3050
  have b10 : 0 ≤ (s 3014) ∧ (s 3014) ≤ 32768 := hS 3014
  refine tt_k 2 (S' := (7, [some (.inr (.inl 30)), some (.inl 0)], [], n, D, s1, p, c)) rfl ?_
  refine k_readMeasures_L7 (Zi := Zi) (D := D) (s := s1) (p := p) (c := c) hd hS1 hC    ?_ _ 0 s1 c (by omega) hS1 fr_rf hC frc_rf (Int.le_refl _) (fun h => h) (Nat.lt_succ_self _)
  intro x11 s12 c13 b14 hS12 f15 hC13 g16 i17 i18 hx19
  show tt Zi d 195 (35, [some (.inr (.inl 30)), some (.inl x11)], [], n, D, s12, p, c13) _
  exact tt_rtv rfl rfl ⟨s12, c13, rfl, rfl, hS12, hC13, (fr_tr (fr_tr fr_rf f2 (by decide)) f15 (by decide)), (frc_tr frc_rf g16 (by decide)), by show s 3049 ≤ (s12 3049); omega, by show s 3050 ≠ 0 → (s12 3050) ≠ 0; omega⟩
