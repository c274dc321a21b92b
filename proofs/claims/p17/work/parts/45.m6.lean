/-! the reference's reader of bits and bytes -/
set_option maxRecDepth 100000 in
set_option maxHeartbeats 4000000 in
theorem k_ready {Zi : Nat → Option (Nat × (Nat → Int))} {d n : Nat} {D : Nat → Nat × Nat} {s : Nat → Int} {p : Nat → Nat} {c : Nat → Nat → Int} (hd : 1 ≤ d) (hS : bS s) (hC : bC D c)  : tt Zi d 165 (0, [some (.inr (.inl 30)), none], [], n, D, s, p, c) (fun R H => ∃ (s' : Nat → Int), R = .inl none ∧ H = (n, D, s', p, c) ∧ bS s' ∧ fr s s' [3049, 3050, 3051, 3052, 3053, 3054] ∧ (s 3049 ≤ s' 3049) ∧ (s' 3050 = 0 → 1 ≤ s' 3054) ∧ (s 3050 ≠ 0 → s' 3050 ≠ 0) ∧ (s 3049 ≤ 32768 → s' 3049 ≤ 32768)) := by
  refine tt_k 2 (S' := (4, [some (.inr (.inl 30)), none], [.inl (s 3054)], n, D, s, p, c)) rfl ?_
  have b1 : 0 ≤ (s 3054) ∧ (s 3054) ≤ 8 := hS 3054
  refine tz_gt (x := (s 3054)) rfl rfl (by omega) (fun h2 => ?_) (fun h2 => ?_)
  · show tt Zi d 165 (14, [some (.inr (.inl 30)), none], [], n, D, s, p, c) _
    exact tt_rtv rfl rfl ⟨s, rfl, rfl, hS, fr_rf, by show s 3049 ≤ (s 3049); omega, by show (s 3050) = 0 → 1 ≤ (s 3054); omega, by show s 3050 ≠ 0 → (s 3050) ≠ 0; omega, by show s 3049 ≤ 32768 → (s 3049) ≤ 32768; omega⟩
  · show tt Zi d 165 (7, [some (.inr (.inl 30)), none], [], n, D, s, p, c) _
    refine tt_k 2 (S' := (11, [some (.inr (.inl 30)), none], [.inl (s 3050)], n, D, s, p, c)) rfl ?_
    have b3 : 0 ≤ (s 3050) ∧ (s 3050) ≤ 8 := hS 3050
    refine tz_le (x := (s 3050)) rfl rfl (by omega) (fun h4 => ?_) (fun h4 => ?_)
    · show tt Zi d 165 (15, [some (.inr (.inl 30)), none], [], n, D, s, p, c) _
      refine tt_k 3 (S' := (22, [some (.inr (.inl 30)), none], [.inl 255, .inl (s 3052)], n, D, s, p, c)) rfl ?_
      have b5 : 0 ≤ (s 3052) ∧ (s 3052) ≤ 255 := hS 3052
      refine tb_ne (x := (s 3052)) (y := 255) rfl rfl (by omega) (fun h6 => ?_) (fun h6 => ?_)
      · show tt Zi d 165 (29, [some (.inr (.inl 30)), none], [], n, D, s, p, c) _
        refine tt_k 6 (S' := (39, [some (.inr (.inl 30)), some (.inl 0)], [.inl (s 3014), .inl (s 3049)], n, D, s, p, c)) rfl ?_
        have b7 : 0 ≤ (s 3049) ∧ (s 3049) ≤ 32769 := hS 3049
        have b8 : 0 ≤ (s 3014) ∧ (s 3014) ≤ 32768 := hS 3014
        refine tb_lt (x := (s 3049)) (y := (s 3014)) rfl rfl (by omega) (fun h9 => ?_) (fun h9 => ?_)
        · show tt Zi d 165 (52, [some (.inr (.inl 30)), some (.inl 0)], [], n, D, s, p, c) _
          refine tt_k 9 (S' := (69, [some (.inr (.inl 30)), some (.inl 0)], [.inl (s 3049), .inr (.inl 34), .inr (.inl 30)], n, D, (us s 3053 (s 3049)), p, c)) rfl ?_
          refine tt_bldv (i := (s 3049)) (v := (c 34 ((s 3049)).toNat)) rfl rfl (by omega) rfl ?_
          show tt Zi d 165 (70, [some (.inr (.inl 30)), some (.inl 0)], [.inl ((c 34 ((s 3049)).toNat)), .inr (.inl 30)], n, D, (us s 3053 (s 3049)), p, c) _
          have b10 : -128 ≤ (c 34 ((s 3049)).toNat) ∧ (c 34 ((s 3049)).toNat) ≤ 127 := hC 34 _
          refine tt_k 12 (S' := (94, [some (.inr (.inl 30)), some (.inl 0)], [.inl 255, .inl ((mi_and (c 34 ((s 3049)).toNat) 255))], n, D, (us (us (us s 3053 (s 3049)) 3052 ((mi_and (c 34 ((s 3049)).toNat) 255))) 3049 ((s 3049) + 1)), p, c)) rfl ?_
          have e11 := mi_and255 ((c 34 ((s 3049)).toNat))
          refine tb_ne (x := (mi_and (c 34 ((s 3049)).toNat) 255)) (y := 255) rfl rfl (by omega) (fun h12 => ?_) (fun h12 => ?_)
          · show tt Zi d 165 (148, [some (.inr (.inl 30)), some (.inl 0)], [], n, D, (us (us (us s 3053 (s 3049)) 3052 ((mi_and (c 34 ((s 3049)).toNat) 255))) 3049 ((s 3049) + 1)), p, c) _
            refine tt_k 2 (S' := (150, [some (.inr (.inl 30)), some (.inl 0)], [.inl 0, .inr (.inl 30)], n, D, (us (us (us s 3053 (s 3049)) 3052 ((mi_and (c 34 ((s 3049)).toNat) 255))) 3049 ((s 3049) + 1)), p, c)) rfl ?_
            have K13 : tt Zi d 165 (160, [some (.inr (.inl 30)), some (.inl 0)], [.inl 8, .inr (.inl 30)], n, D, (us (us (us s 3053 (s 3049)) 3052 ((mi_and (c 34 ((s 3049)).toNat) 255))) 3049 ((s 3049) + 1)), p, c) (fun R H => ∃ (s' : Nat → Int), R = .inl none ∧ H = (n, D, s', p, c) ∧ bS s' ∧ fr s s' [3049, 3050, 3051, 3052, 3053, 3054] ∧ (s 3049 ≤ s' 3049) ∧ (s' 3050 = 0 → 1 ≤ s' 3054) ∧ (s 3050 ≠ 0 → s' 3050 ≠ 0) ∧ (s 3049 ≤ 32768 → s' 3049 ≤ 32768)) := by
              refine tt_k 1 (S' := (163, [some (.inr (.inl 30)), some (.inl 0)], [], n, D, (us (us (us (us s 3053 (s 3049)) 3052 ((mi_and (c 34 ((s 3049)).toNat) 255))) 3049 ((s 3049) + 1)) 3054 8), p, c)) rfl ?_
              exact tt_rtv rfl rfl ⟨(us (us (us (us s 3053 (s 3049)) 3052 ((mi_and (c 34 ((s 3049)).toNat) 255))) 3049 ((s 3049) + 1)) 3054 8), rfl, rfl, (bS_us (bS_us (bS_us (bS_us hS (show 0 ≤ (s 3049) ∧ (s 3049) ≤ 32768 by omega)) (show 0 ≤ (mi_and (c 34 ((s 3049)).toNat) 255) ∧ (mi_and (c 34 ((s 3049)).toNat) 255) ≤ 255 by omega)) (show 0 ≤ ((s 3049) + 1) ∧ ((s 3049) + 1) ≤ 32769 by omega)) (show 0 ≤ 8 ∧ 8 ≤ 8 by omega)), (fr_us (by decide) (fr_us (by decide) (fr_us (by decide) (fr_us (by decide) fr_rf)))), by show s 3049 ≤ ((s 3049) + 1); omega, by show (s 3050) = 0 → 1 ≤ 8; omega, by show s 3050 ≠ 0 → (s 3050) ≠ 0; omega, by show s 3049 ≤ 32768 → ((s 3049) + 1) ≤ 32768; omega⟩
            refine tz_eq (x := 0) rfl rfl (by omega) (fun h15 => ?_) (fun h15 => ?_)
            · show tt Zi d 165 (158, [some (.inr (.inl 30)), some (.inl 0)], [.inr (.inl 30)], n, D, (us (us (us s 3053 (s 3049)) 3052 ((mi_and (c 34 ((s 3049)).toNat) 255))) 3049 ((s 3049) + 1)), p, c) _
              refine tt_k 1 (S' := (160, [some (.inr (.inl 30)), some (.inl 0)], [.inl 8, .inr (.inl 30)], n, D, (us (us (us s 3053 (s 3049)) 3052 ((mi_and (c 34 ((s 3049)).toNat) 255))) 3049 ((s 3049) + 1)), p, c)) rfl ?_
              exact K13
            · exfalso; omega
          · show tt Zi d 165 (97, [some (.inr (.inl 30)), some (.inl 0)], [], n, D, (us (us (us s 3053 (s 3049)) 3052 ((mi_and (c 34 ((s 3049)).toNat) 255))) 3049 ((s 3049) + 1)), p, c) _
            refine tt_k 4 (S' := (105, [some (.inr (.inl 30)), some (.inl 0)], [.inl (s 3014), .inl ((s 3049) + 1)], n, D, (us (us (us s 3053 (s 3049)) 3052 ((mi_and (c 34 ((s 3049)).toNat) 255))) 3049 ((s 3049) + 1)), p, c)) rfl ?_
            refine tb_lt (x := ((s 3049) + 1)) (y := (s 3014)) rfl rfl (by omega) (fun h16 => ?_) (fun h16 => ?_)
            · show tt Zi d 165 (120, [some (.inr (.inl 30)), some (.inl 0)], [], n, D, (us (us (us s 3053 (s 3049)) 3052 ((mi_and (c 34 ((s 3049)).toNat) 255))) 3049 ((s 3049) + 1)), p, c) _
              refine tt_k 4 (S' := (128, [some (.inr (.inl 30)), some (.inl 0)], [.inl ((s 3049) + 1), .inr (.inl 34)], n, D, (us (us (us s 3053 (s 3049)) 3052 ((mi_and (c 34 ((s 3049)).toNat) 255))) 3049 ((s 3049) + 1)), p, c)) rfl ?_
              refine tt_bldv (i := ((s 3049) + 1)) (v := (c 34 (((s 3049) + 1)).toNat)) rfl rfl (by omega) rfl ?_
              show tt Zi d 165 (129, [some (.inr (.inl 30)), some (.inl 0)], [.inl ((c 34 (((s 3049) + 1)).toNat))], n, D, (us (us (us s 3053 (s 3049)) 3052 ((mi_and (c 34 ((s 3049)).toNat) 255))) 3049 ((s 3049) + 1)), p, c) _
              have b17 : -128 ≤ (c 34 (((s 3049) + 1)).toNat) ∧ (c 34 (((s 3049) + 1)).toNat) ≤ 127 := hC 34 _
              refine tt_k 3 (S' := (135, [some (.inr (.inl 30)), some (.inl 0)], [.inl 127, .inl ((mi_and (c 34 (((s 3049) + 1)).toNat) 255))], n, D, (us (us (us s 3053 (s 3049)) 3052 ((mi_and (c 34 ((s 3049)).toNat) 255))) 3049 ((s 3049) + 1)), p, c)) rfl ?_
              have e18 := mi_and255 ((c 34 (((s 3049) + 1)).toNat))
              refine tb_le (x := (mi_and (c 34 (((s 3049) + 1)).toNat) 255)) (y := 127) rfl rfl (by omega) (fun h19 => ?_) (fun h19 => ?_)
              · show tt Zi d 165 (148, [some (.inr (.inl 30)), some (.inl 0)], [], n, D, (us (us (us s 3053 (s 3049)) 3052 ((mi_and (c 34 ((s 3049)).toNat) 255))) 3049 ((s 3049) + 1)), p, c) _
                refine tt_k 2 (S' := (150, [some (.inr (.inl 30)), some (.inl 0)], [.inl 0, .inr (.inl 30)], n, D, (us (us (us s 3053 (s 3049)) 3052 ((mi_and (c 34 ((s 3049)).toNat) 255))) 3049 ((s 3049) + 1)), p, c)) rfl ?_
                have K20 : tt Zi d 165 (160, [some (.inr (.inl 30)), some (.inl 0)], [.inl 8, .inr (.inl 30)], n, D, (us (us (us s 3053 (s 3049)) 3052 ((mi_and (c 34 ((s 3049)).toNat) 255))) 3049 ((s 3049) + 1)), p, c) (fun R H => ∃ (s' : Nat → Int), R = .inl none ∧ H = (n, D, s', p, c) ∧ bS s' ∧ fr s s' [3049, 3050, 3051, 3052, 3053, 3054] ∧ (s 3049 ≤ s' 3049) ∧ (s' 3050 = 0 → 1 ≤ s' 3054) ∧ (s 3050 ≠ 0 → s' 3050 ≠ 0) ∧ (s 3049 ≤ 32768 → s' 3049 ≤ 32768)) := by
                  refine tt_k 1 (S' := (163, [some (.inr (.inl 30)), some (.inl 0)], [], n, D, (us (us (us (us s 3053 (s 3049)) 3052 ((mi_and (c 34 ((s 3049)).toNat) 255))) 3049 ((s 3049) + 1)) 3054 8), p, c)) rfl ?_
                  exact tt_rtv rfl rfl ⟨(us (us (us (us s 3053 (s 3049)) 3052 ((mi_and (c 34 ((s 3049)).toNat) 255))) 3049 ((s 3049) + 1)) 3054 8), rfl, rfl, (bS_us (bS_us (bS_us (bS_us hS (show 0 ≤ (s 3049) ∧ (s 3049) ≤ 32768 by omega)) (show 0 ≤ (mi_and (c 34 ((s 3049)).toNat) 255) ∧ (mi_and (c 34 ((s 3049)).toNat) 255) ≤ 255 by omega)) (show 0 ≤ ((s 3049) + 1) ∧ ((s 3049) + 1) ≤ 32769 by omega)) (show 0 ≤ 8 ∧ 8 ≤ 8 by omega)), (fr_us (by decide) (fr_us (by decide) (fr_us (by decide) (fr_us (by decide) fr_rf)))), by show s 3049 ≤ ((s 3049) + 1); omega, by show (s 3050) = 0 → 1 ≤ 8; omega, by show s 3050 ≠ 0 → (s 3050) ≠ 0; omega, by show s 3049 ≤ 32768 → ((s 3049) + 1) ≤ 32768; omega⟩
                refine tz_eq (x := 0) rfl rfl (by omega) (fun h22 => ?_) (fun h22 => ?_)
                · show tt Zi d 165 (158, [some (.inr (.inl 30)), some (.inl 0)], [.inr (.inl 30)], n, D, (us (us (us s 3053 (s 3049)) 3052 ((mi_and (c 34 ((s 3049)).toNat) 255))) 3049 ((s 3049) + 1)), p, c) _
                  refine tt_k 1 (S' := (160, [some (.inr (.inl 30)), some (.inl 0)], [.inl 8, .inr (.inl 30)], n, D, (us (us (us s 3053 (s 3049)) 3052 ((mi_and (c 34 ((s 3049)).toNat) 255))) 3049 ((s 3049) + 1)), p, c)) rfl ?_
                  exact K20
                · exfalso; omega
              · show tt Zi d 165 (138, [some (.inr (.inl 30)), some (.inl 0)], [], n, D, (us (us (us s 3053 (s 3049)) 3052 ((mi_and (c 34 ((s 3049)).toNat) 255))) 3049 ((s 3049) + 1)), p, c) _
                refine tt_k 4 (S' := (145, [some (.inr (.inl 30)), some (.inl 0)], [.inl (s 3049), .inl 7, .inr (.inl 30)], n, D, (us (us (us s 3053 (s 3049)) 3052 ((mi_and (c 34 ((s 3049)).toNat) 255))) 3049 ((s 3049) + 1)), p, c)) rfl ?_
                refine tt_cl (by omega) rfl (k_fail (Zi := Zi) (D := D) (s := (us (us (us s 3053 (s 3049)) 3052 ((mi_and (c 34 ((s 3049)).toNat) 255))) 3049 ((s 3049) + 1))) (p := p) (c := c) (by omega) (bS_us (bS_us (bS_us hS (show 0 ≤ (s 3049) ∧ (s 3049) ≤ 32768 by omega)) (show 0 ≤ (mi_and (c 34 ((s 3049)).toNat) 255) ∧ (mi_and (c 34 ((s 3049)).toNat) 255) ≤ 255 by omega)) (show 0 ≤ ((s 3049) + 1) ∧ ((s 3049) + 1) ≤ 32769 by omega)) hC 7 (s 3049) (by omega) (by omega)) ?_
                rintro _ _ ⟨s23, rfl, rfl, hS23, f24, k25, k26⟩
                show tt Zi d 165 (148, [some (.inr (.inl 30)), some (.inl 0)], [], n, D, s23, p, c) _
                have k25 : ((s 3050) = 0 → (s23 3050) = 7 ∧ (s23 3051) = (s 3049)) := k25
                have k26 : ((s 3050) ≠ 0 → (s23 3050) = (s 3050) ∧ (s23 3051) = (s 3051)) := k26
                have b27 : 0 ≤ (s23 3050) ∧ (s23 3050) ≤ 8 := hS23 3050
                have b28 : -1 ≤ (s23 3051) ∧ (s23 3051) ≤ 32769 := hS23 3051
                have b29 : -1 ≤ (s 3051) ∧ (s 3051) ≤ 32769 := hS 3051
                have e30 : s23 3049 = ((s 3049) + 1) := (f24 3049 (by decide))
                have b31 : 0 ≤ (s23 3049) ∧ (s23 3049) ≤ 32769 := hS23 3049
                have e32 : s23 3014 = (s 3014) := (f24 3014 (by decide))
                have b33 : 0 ≤ (s23 3014) ∧ (s23 3014) ≤ 32768 := hS23 3014
                have e34 : s23 3053 = (s 3049) := (f24 3053 (by decide))
                have b35 : 0 ≤ (s23 3053) ∧ (s23 3053) ≤ 32768 := hS23 3053
                have e36 : s23 3052 = (mi_and (c 34 ((s 3049)).toNat) 255) := (f24 3052 (by decide))
                have b37 : 0 ≤ (s23 3052) ∧ (s23 3052) ≤ 255 := hS23 3052
                have e38 : s23 3054 = (s 3054) := (f24 3054 (by decide))
                have b39 : 0 ≤ (s23 3054) ∧ (s23 3054) ≤ 8 := hS23 3054
                refine tt_k 2 (S' := (150, [some (.inr (.inl 30)), some (.inl 0)], [.inl 0, .inr (.inl 30)], n, D, s23, p, c)) rfl ?_
                have K40 : tt Zi d 165 (160, [some (.inr (.inl 30)), some (.inl 0)], [.inl 8, .inr (.inl 30)], n, D, s23, p, c) (fun R H => ∃ (s' : Nat → Int), R = .inl none ∧ H = (n, D, s', p, c) ∧ bS s' ∧ fr s s' [3049, 3050, 3051, 3052, 3053, 3054] ∧ (s 3049 ≤ s' 3049) ∧ (s' 3050 = 0 → 1 ≤ s' 3054) ∧ (s 3050 ≠ 0 → s' 3050 ≠ 0) ∧ (s 3049 ≤ 32768 → s' 3049 ≤ 32768)) := by
                  refine tt_k 1 (S' := (163, [some (.inr (.inl 30)), some (.inl 0)], [], n, D, (us s23 3054 8), p, c)) rfl ?_
                  exact tt_rtv rfl rfl ⟨(us s23 3054 8), rfl, rfl, (bS_us hS23 (show 0 ≤ 8 ∧ 8 ≤ 8 by omega)), (fr_us (by decide) (fr_tr (fr_us (by decide) (fr_us (by decide) (fr_us (by decide) fr_rf))) f24 (by decide))), by show s 3049 ≤ (s23 3049); omega, by show (s23 3050) = 0 → 1 ≤ 8; omega, by show s 3050 ≠ 0 → (s23 3050) ≠ 0; omega, by show s 3049 ≤ 32768 → (s23 3049) ≤ 32768; omega⟩
                refine tz_eq (x := 0) rfl rfl (by omega) (fun h42 => ?_) (fun h42 => ?_)
                · show tt Zi d 165 (158, [some (.inr (.inl 30)), some (.inl 0)], [.inr (.inl 30)], n, D, s23, p, c) _
                  refine tt_k 1 (S' := (160, [some (.inr (.inl 30)), some (.inl 0)], [.inl 8, .inr (.inl 30)], n, D, s23, p, c)) rfl ?_
                  exact K40
                · exfalso; omega
            · show tt Zi d 165 (108, [some (.inr (.inl 30)), some (.inl 0)], [], n, D, (us (us (us s 3053 (s 3049)) 3052 ((mi_and (c 34 ((s 3049)).toNat) 255))) 3049 ((s 3049) + 1)), p, c) _
              refine tt_k 4 (S' := (114, [some (.inr (.inl 30)), some (.inl 0)], [.inl (s 3014), .inl 1, .inr (.inl 30)], n, D, (us (us (us s 3053 (s 3049)) 3052 ((mi_and (c 34 ((s 3049)).toNat) 255))) 3049 ((s 3049) + 1)), p, c)) rfl ?_
              refine tt_cl (by omega) rfl (k_fail (Zi := Zi) (D := D) (s := (us (us (us s 3053 (s 3049)) 3052 ((mi_and (c 34 ((s 3049)).toNat) 255))) 3049 ((s 3049) + 1))) (p := p) (c := c) (by omega) (bS_us (bS_us (bS_us hS (show 0 ≤ (s 3049) ∧ (s 3049) ≤ 32768 by omega)) (show 0 ≤ (mi_and (c 34 ((s 3049)).toNat) 255) ∧ (mi_and (c 34 ((s 3049)).toNat) 255) ≤ 255 by omega)) (show 0 ≤ ((s 3049) + 1) ∧ ((s 3049) + 1) ≤ 32769 by omega)) hC 1 (s 3014) (by omega) (by omega)) ?_
              rintro _ _ ⟨s43, rfl, rfl, hS43, f44, k45, k46⟩
              show tt Zi d 165 (117, [some (.inr (.inl 30)), some (.inl 0)], [], n, D, s43, p, c) _
              have k45 : ((s 3050) = 0 → (s43 3050) = 1 ∧ (s43 3051) = (s 3014)) := k45
              have k46 : ((s 3050) ≠ 0 → (s43 3050) = (s 3050) ∧ (s43 3051) = (s 3051)) := k46
              have b47 : 0 ≤ (s43 3050) ∧ (s43 3050) ≤ 8 := hS43 3050
              have b48 : -1 ≤ (s43 3051) ∧ (s43 3051) ≤ 32769 := hS43 3051
              have b49 : -1 ≤ (s 3051) ∧ (s 3051) ≤ 32769 := hS 3051
              have e50 : s43 3049 = ((s 3049) + 1) := (f44 3049 (by decide))
              have b51 : 0 ≤ (s43 3049) ∧ (s43 3049) ≤ 32769 := hS43 3049
              have e52 : s43 3014 = (s 3014) := (f44 3014 (by decide))
              have b53 : 0 ≤ (s43 3014) ∧ (s43 3014) ≤ 32768 := hS43 3014
              have e54 : s43 3053 = (s 3049) := (f44 3053 (by decide))
              have b55 : 0 ≤ (s43 3053) ∧ (s43 3053) ≤ 32768 := hS43 3053
              have e56 : s43 3052 = (mi_and (c 34 ((s 3049)).toNat) 255) := (f44 3052 (by decide))
              have b57 : 0 ≤ (s43 3052) ∧ (s43 3052) ≤ 255 := hS43 3052
              have e58 : s43 3054 = (s 3054) := (f44 3054 (by decide))
              have b59 : 0 ≤ (s43 3054) ∧ (s43 3054) ≤ 8 := hS43 3054
              refine tt_k 3 (S' := (150, [some (.inr (.inl 30)), some (.inl 0)], [.inl 0, .inr (.inl 30)], n, D, s43, p, c)) rfl ?_
              have K60 : tt Zi d 165 (160, [some (.inr (.inl 30)), some (.inl 0)], [.inl 8, .inr (.inl 30)], n, D, s43, p, c) (fun R H => ∃ (s' : Nat → Int), R = .inl none ∧ H = (n, D, s', p, c) ∧ bS s' ∧ fr s s' [3049, 3050, 3051, 3052, 3053, 3054] ∧ (s 3049 ≤ s' 3049) ∧ (s' 3050 = 0 → 1 ≤ s' 3054) ∧ (s 3050 ≠ 0 → s' 3050 ≠ 0) ∧ (s 3049 ≤ 32768 → s' 3049 ≤ 32768)) := by
                refine tt_k 1 (S' := (163, [some (.inr (.inl 30)), some (.inl 0)], [], n, D, (us s43 3054 8), p, c)) rfl ?_
                exact tt_rtv rfl rfl ⟨(us s43 3054 8), rfl, rfl, (bS_us hS43 (show 0 ≤ 8 ∧ 8 ≤ 8 by omega)), (fr_us (by decide) (fr_tr (fr_us (by decide) (fr_us (by decide) (fr_us (by decide) fr_rf))) f44 (by decide))), by show s 3049 ≤ (s43 3049); omega, by show (s43 3050) = 0 → 1 ≤ 8; omega, by show s 3050 ≠ 0 → (s43 3050) ≠ 0; omega, by show s 3049 ≤ 32768 → (s43 3049) ≤ 32768; omega⟩
              refine tz_eq (x := 0) rfl rfl (by omega) (fun h62 => ?_) (fun h62 => ?_)
              · show tt Zi d 165 (158, [some (.inr (.inl 30)), some (.inl 0)], [.inr (.inl 30)], n, D, s43, p, c) _
                refine tt_k 1 (S' := (160, [some (.inr (.inl 30)), some (.inl 0)], [.inl 8, .inr (.inl 30)], n, D, s43, p, c)) rfl ?_
                exact K60
              · exfalso; omega
        · show tt Zi d 165 (42, [some (.inr (.inl 30)), some (.inl 0)], [], n, D, s, p, c) _
          refine tt_k 4 (S' := (48, [some (.inr (.inl 30)), some (.inl 0)], [.inl (s 3014), .inl 1, .inr (.inl 30)], n, D, s, p, c)) rfl ?_
          refine tt_cl (by omega) rfl (k_fail (Zi := Zi) (D := D) (s := s) (p := p) (c := c) (by omega) hS hC 1 (s 3014) (by omega) (by omega)) ?_
          rintro _ _ ⟨s63, rfl, rfl, hS63, f64, k65, k66⟩
          show tt Zi d 165 (51, [some (.inr (.inl 30)), some (.inl 0)], [], n, D, s63, p, c) _
          have k65 : ((s 3050) = 0 → (s63 3050) = 1 ∧ (s63 3051) = (s 3014)) := k65
          have k66 : ((s 3050) ≠ 0 → (s63 3050) = (s 3050) ∧ (s63 3051) = (s 3051)) := k66
          have b67 : 0 ≤ (s63 3050) ∧ (s63 3050) ≤ 8 := hS63 3050
          have b68 : -1 ≤ (s63 3051) ∧ (s63 3051) ≤ 32769 := hS63 3051
          have b69 : -1 ≤ (s 3051) ∧ (s 3051) ≤ 32769 := hS 3051
          have e70 : s63 3049 = (s 3049) := (f64 3049 (by decide))
          have b71 : 0 ≤ (s63 3049) ∧ (s63 3049) ≤ 32769 := hS63 3049
          have e72 : s63 3014 = (s 3014) := (f64 3014 (by decide))
          have b73 : 0 ≤ (s63 3014) ∧ (s63 3014) ≤ 32768 := hS63 3014
          have e74 : s63 3053 = (s 3053) := (f64 3053 (by decide))
          have b75 : 0 ≤ (s63 3053) ∧ (s63 3053) ≤ 32768 := hS63 3053
          have b76 : 0 ≤ (s 3053) ∧ (s 3053) ≤ 32768 := hS 3053
          have e77 : s63 3052 = (s 3052) := (f64 3052 (by decide))
          have b78 : 0 ≤ (s63 3052) ∧ (s63 3052) ≤ 255 := hS63 3052
          have e79 : s63 3054 = (s 3054) := (f64 3054 (by decide))
          have b80 : 0 ≤ (s63 3054) ∧ (s63 3054) ≤ 8 := hS63 3054
          exact tt_rtv rfl rfl ⟨s63, rfl, rfl, hS63, (fr_tr fr_rf f64 (by decide)), by show s 3049 ≤ (s63 3049); omega, by show (s63 3050) = 0 → 1 ≤ (s63 3054); omega, by show s 3050 ≠ 0 → (s63 3050) ≠ 0; omega, by show s 3049 ≤ 32768 → (s63 3049) ≤ 32768; omega⟩
      · show tt Zi d 165 (25, [some (.inr (.inl 30)), none], [], n, D, s, p, c) _
        refine tt_k 7 (S' := (39, [some (.inr (.inl 30)), some (.inl 1)], [.inl (s 3014), .inl (s 3049)], n, D, s, p, c)) rfl ?_
        have b81 : 0 ≤ (s 3049) ∧ (s 3049) ≤ 32769 := hS 3049
        have b82 : 0 ≤ (s 3014) ∧ (s 3014) ≤ 32768 := hS 3014
        refine tb_lt (x := (s 3049)) (y := (s 3014)) rfl rfl (by omega) (fun h83 => ?_) (fun h83 => ?_)
        · show tt Zi d 165 (52, [some (.inr (.inl 30)), some (.inl 1)], [], n, D, s, p, c) _
          refine tt_k 9 (S' := (69, [some (.inr (.inl 30)), some (.inl 1)], [.inl (s 3049), .inr (.inl 34), .inr (.inl 30)], n, D, (us s 3053 (s 3049)), p, c)) rfl ?_
          refine tt_bldv (i := (s 3049)) (v := (c 34 ((s 3049)).toNat)) rfl rfl (by omega) rfl ?_
          show tt Zi d 165 (70, [some (.inr (.inl 30)), some (.inl 1)], [.inl ((c 34 ((s 3049)).toNat)), .inr (.inl 30)], n, D, (us s 3053 (s 3049)), p, c) _
          have b84 : -128 ≤ (c 34 ((s 3049)).toNat) ∧ (c 34 ((s 3049)).toNat) ≤ 127 := hC 34 _
          refine tt_k 12 (S' := (94, [some (.inr (.inl 30)), some (.inl 1)], [.inl 255, .inl ((mi_and (c 34 ((s 3049)).toNat) 255))], n, D, (us (us (us s 3053 (s 3049)) 3052 ((mi_and (c 34 ((s 3049)).toNat) 255))) 3049 ((s 3049) + 1)), p, c)) rfl ?_
          have e85 := mi_and255 ((c 34 ((s 3049)).toNat))
          refine tb_ne (x := (mi_and (c 34 ((s 3049)).toNat) 255)) (y := 255) rfl rfl (by omega) (fun h86 => ?_) (fun h86 => ?_)
          · show tt Zi d 165 (148, [some (.inr (.inl 30)), some (.inl 1)], [], n, D, (us (us (us s 3053 (s 3049)) 3052 ((mi_and (c 34 ((s 3049)).toNat) 255))) 3049 ((s 3049) + 1)), p, c) _
            refine tt_k 2 (S' := (150, [some (.inr (.inl 30)), some (.inl 1)], [.inl 1, .inr (.inl 30)], n, D, (us (us (us s 3053 (s 3049)) 3052 ((mi_and (c 34 ((s 3049)).toNat) 255))) 3049 ((s 3049) + 1)), p, c)) rfl ?_
            have K87 : tt Zi d 165 (160, [some (.inr (.inl 30)), some (.inl 1)], [.inl 7, .inr (.inl 30)], n, D, (us (us (us s 3053 (s 3049)) 3052 ((mi_and (c 34 ((s 3049)).toNat) 255))) 3049 ((s 3049) + 1)), p, c) (fun R H => ∃ (s' : Nat → Int), R = .inl none ∧ H = (n, D, s', p, c) ∧ bS s' ∧ fr s s' [3049, 3050, 3051, 3052, 3053, 3054] ∧ (s 3049 ≤ s' 3049) ∧ (s' 3050 = 0 → 1 ≤ s' 3054) ∧ (s 3050 ≠ 0 → s' 3050 ≠ 0) ∧ (s 3049 ≤ 32768 → s' 3049 ≤ 32768)) := by
              refine tt_k 1 (S' := (163, [some (.inr (.inl 30)), some (.inl 1)], [], n, D, (us (us (us (us s 3053 (s 3049)) 3052 ((mi_and (c 34 ((s 3049)).toNat) 255))) 3049 ((s 3049) + 1)) 3054 7), p, c)) rfl ?_
              exact tt_rtv rfl rfl ⟨(us (us (us (us s 3053 (s 3049)) 3052 ((mi_and (c 34 ((s 3049)).toNat) 255))) 3049 ((s 3049) + 1)) 3054 7), rfl, rfl, (bS_us (bS_us (bS_us (bS_us hS (show 0 ≤ (s 3049) ∧ (s 3049) ≤ 32768 by omega)) (show 0 ≤ (mi_and (c 34 ((s 3049)).toNat) 255) ∧ (mi_and (c 34 ((s 3049)).toNat) 255) ≤ 255 by omega)) (show 0 ≤ ((s 3049) + 1) ∧ ((s 3049) + 1) ≤ 32769 by omega)) (show 0 ≤ 7 ∧ 7 ≤ 8 by omega)), (fr_us (by decide) (fr_us (by decide) (fr_us (by decide) (fr_us (by decide) fr_rf)))), by show s 3049 ≤ ((s 3049) + 1); omega, by show (s 3050) = 0 → 1 ≤ 7; omega, by show s 3050 ≠ 0 → (s 3050) ≠ 0; omega, by show s 3049 ≤ 32768 → ((s 3049) + 1) ≤ 32768; omega⟩
            refine tz_eq (x := 1) rfl rfl (by omega) (fun h89 => ?_) (fun h89 => ?_)
            · exfalso; omega
            · show tt Zi d 165 (153, [some (.inr (.inl 30)), some (.inl 1)], [.inr (.inl 30)], n, D, (us (us (us s 3053 (s 3049)) 3052 ((mi_and (c 34 ((s 3049)).toNat) 255))) 3049 ((s 3049) + 1)), p, c) _
              refine tt_k 2 (S' := (160, [some (.inr (.inl 30)), some (.inl 1)], [.inl 7, .inr (.inl 30)], n, D, (us (us (us s 3053 (s 3049)) 3052 ((mi_and (c 34 ((s 3049)).toNat) 255))) 3049 ((s 3049) + 1)), p, c)) rfl ?_
              exact K87
          · show tt Zi d 165 (97, [some (.inr (.inl 30)), some (.inl 1)], [], n, D, (us (us (us s 3053 (s 3049)) 3052 ((mi_and (c 34 ((s 3049)).toNat) 255))) 3049 ((s 3049) + 1)), p, c) _
            refine tt_k 4 (S' := (105, [some (.inr (.inl 30)), some (.inl 1)], [.inl (s 3014), .inl ((s 3049) + 1)], n, D, (us (us (us s 3053 (s 3049)) 3052 ((mi_and (c 34 ((s 3049)).toNat) 255))) 3049 ((s 3049) + 1)), p, c)) rfl ?_
            refine tb_lt (x := ((s 3049) + 1)) (y := (s 3014)) rfl rfl (by omega) (fun h90 => ?_) (fun h90 => ?_)
            · show tt Zi d 165 (120, [some (.inr (.inl 30)), some (.inl 1)], [], n, D, (us (us (us s 3053 (s 3049)) 3052 ((mi_and (c 34 ((s 3049)).toNat) 255))) 3049 ((s 3049) + 1)), p, c) _
              refine tt_k 4 (S' := (128, [some (.inr (.inl 30)), some (.inl 1)], [.inl ((s 3049) + 1), .inr (.inl 34)], n, D, (us (us (us s 3053 (s 3049)) 3052 ((mi_and (c 34 ((s 3049)).toNat) 255))) 3049 ((s 3049) + 1)), p, c)) rfl ?_
              refine tt_bldv (i := ((s 3049) + 1)) (v := (c 34 (((s 3049) + 1)).toNat)) rfl rfl (by omega) rfl ?_
              show tt Zi d 165 (129, [some (.inr (.inl 30)), some (.inl 1)], [.inl ((c 34 (((s 3049) + 1)).toNat))], n, D, (us (us (us s 3053 (s 3049)) 3052 ((mi_and (c 34 ((s 3049)).toNat) 255))) 3049 ((s 3049) + 1)), p, c) _
              have b91 : -128 ≤ (c 34 (((s 3049) + 1)).toNat) ∧ (c 34 (((s 3049) + 1)).toNat) ≤ 127 := hC 34 _
              refine tt_k 3 (S' := (135, [some (.inr (.inl 30)), some (.inl 1)], [.inl 127, .inl ((mi_and (c 34 (((s 3049) + 1)).toNat) 255))], n, D, (us (us (us s 3053 (s 3049)) 3052 ((mi_and (c 34 ((s 3049)).toNat) 255))) 3049 ((s 3049) + 1)), p, c)) rfl ?_
              have e92 := mi_and255 ((c 34 (((s 3049) + 1)).toNat))
              refine tb_le (x := (mi_and (c 34 (((s 3049) + 1)).toNat) 255)) (y := 127) rfl rfl (by omega) (fun h93 => ?_) (fun h93 => ?_)
              · show tt Zi d 165 (148, [some (.inr (.inl 30)), some (.inl 1)], [], n, D, (us (us (us s 3053 (s 3049)) 3052 ((mi_and (c 34 ((s 3049)).toNat) 255))) 3049 ((s 3049) + 1)), p, c) _
                refine tt_k 2 (S' := (150, [some (.inr (.inl 30)), some (.inl 1)], [.inl 1, .inr (.inl 30)], n, D, (us (us (us s 3053 (s 3049)) 3052 ((mi_and (c 34 ((s 3049)).toNat) 255))) 3049 ((s 3049) + 1)), p, c)) rfl ?_
                have K94 : tt Zi d 165 (160, [some (.inr (.inl 30)), some (.inl 1)], [.inl 7, .inr (.inl 30)], n, D, (us (us (us s 3053 (s 3049)) 3052 ((mi_and (c 34 ((s 3049)).toNat) 255))) 3049 ((s 3049) + 1)), p, c) (fun R H => ∃ (s' : Nat → Int), R = .inl none ∧ H = (n, D, s', p, c) ∧ bS s' ∧ fr s s' [3049, 3050, 3051, 3052, 3053, 3054] ∧ (s 3049 ≤ s' 3049) ∧ (s' 3050 = 0 → 1 ≤ s' 3054) ∧ (s 3050 ≠ 0 → s' 3050 ≠ 0) ∧ (s 3049 ≤ 32768 → s' 3049 ≤ 32768)) := by
                  refine tt_k 1 (S' := (163, [some (.inr (.inl 30)), some (.inl 1)], [], n, D, (us (us (us (us s 3053 (s 3049)) 3052 ((mi_and (c 34 ((s 3049)).toNat) 255))) 3049 ((s 3049) + 1)) 3054 7), p, c)) rfl ?_
                  exact tt_rtv rfl rfl ⟨(us (us (us (us s 3053 (s 3049)) 3052 ((mi_and (c 34 ((s 3049)).toNat) 255))) 3049 ((s 3049) + 1)) 3054 7), rfl, rfl, (bS_us (bS_us (bS_us (bS_us hS (show 0 ≤ (s 3049) ∧ (s 3049) ≤ 32768 by omega)) (show 0 ≤ (mi_and (c 34 ((s 3049)).toNat) 255) ∧ (mi_and (c 34 ((s 3049)).toNat) 255) ≤ 255 by omega)) (show 0 ≤ ((s 3049) + 1) ∧ ((s 3049) + 1) ≤ 32769 by omega)) (show 0 ≤ 7 ∧ 7 ≤ 8 by omega)), (fr_us (by decide) (fr_us (by decide) (fr_us (by decide) (fr_us (by decide) fr_rf)))), by show s 3049 ≤ ((s 3049) + 1); omega, by show (s 3050) = 0 → 1 ≤ 7; omega, by show s 3050 ≠ 0 → (s 3050) ≠ 0; omega, by show s 3049 ≤ 32768 → ((s 3049) + 1) ≤ 32768; omega⟩
                refine tz_eq (x := 1) rfl rfl (by omega) (fun h96 => ?_) (fun h96 => ?_)
                · exfalso; omega
                · show tt Zi d 165 (153, [some (.inr (.inl 30)), some (.inl 1)], [.inr (.inl 30)], n, D, (us (us (us s 3053 (s 3049)) 3052 ((mi_and (c 34 ((s 3049)).toNat) 255))) 3049 ((s 3049) + 1)), p, c) _
                  refine tt_k 2 (S' := (160, [some (.inr (.inl 30)), some (.inl 1)], [.inl 7, .inr (.inl 30)], n, D, (us (us (us s 3053 (s 3049)) 3052 ((mi_and (c 34 ((s 3049)).toNat) 255))) 3049 ((s 3049) + 1)), p, c)) rfl ?_
                  exact K94
              · show tt Zi d 165 (138, [some (.inr (.inl 30)), some (.inl 1)], [], n, D, (us (us (us s 3053 (s 3049)) 3052 ((mi_and (c 34 ((s 3049)).toNat) 255))) 3049 ((s 3049) + 1)), p, c) _
                refine tt_k 4 (S' := (145, [some (.inr (.inl 30)), some (.inl 1)], [.inl (s 3049), .inl 7, .inr (.inl 30)], n, D, (us (us (us s 3053 (s 3049)) 3052 ((mi_and (c 34 ((s 3049)).toNat) 255))) 3049 ((s 3049) + 1)), p, c)) rfl ?_
                refine tt_cl (by omega) rfl (k_fail (Zi := Zi) (D := D) (s := (us (us (us s 3053 (s 3049)) 3052 ((mi_and (c 34 ((s 3049)).toNat) 255))) 3049 ((s 3049) + 1))) (p := p) (c := c) (by omega) (bS_us (bS_us (bS_us hS (show 0 ≤ (s 3049) ∧ (s 3049) ≤ 32768 by omega)) (show 0 ≤ (mi_and (c 34 ((s 3049)).toNat) 255) ∧ (mi_and (c 34 ((s 3049)).toNat) 255) ≤ 255 by omega)) (show 0 ≤ ((s 3049) + 1) ∧ ((s 3049) + 1) ≤ 32769 by omega)) hC 7 (s 3049) (by omega) (by omega)) ?_
                rintro _ _ ⟨s97, rfl, rfl, hS97, f98, k99, k100⟩
                show tt Zi d 165 (148, [some (.inr (.inl 30)), some (.inl 1)], [], n, D, s97, p, c) _
                have k99 : ((s 3050) = 0 → (s97 3050) = 7 ∧ (s97 3051) = (s 3049)) := k99
                have k100 : ((s 3050) ≠ 0 → (s97 3050) = (s 3050) ∧ (s97 3051) = (s 3051)) := k100
                have b101 : 0 ≤ (s97 3050) ∧ (s97 3050) ≤ 8 := hS97 3050
                have b102 : -1 ≤ (s97 3051) ∧ (s97 3051) ≤ 32769 := hS97 3051
                have b103 : -1 ≤ (s 3051) ∧ (s 3051) ≤ 32769 := hS 3051
                have e104 : s97 3049 = ((s 3049) + 1) := (f98 3049 (by decide))
                have b105 : 0 ≤ (s97 3049) ∧ (s97 3049) ≤ 32769 := hS97 3049
                have e106 : s97 3014 = (s 3014) := (f98 3014 (by decide))
                have b107 : 0 ≤ (s97 3014) ∧ (s97 3014) ≤ 32768 := hS97 3014
                have e108 : s97 3053 = (s 3049) := (f98 3053 (by decide))
                have b109 : 0 ≤ (s97 3053) ∧ (s97 3053) ≤ 32768 := hS97 3053
                have e110 : s97 3052 = (mi_and (c 34 ((s 3049)).toNat) 255) := (f98 3052 (by decide))
                have b111 : 0 ≤ (s97 3052) ∧ (s97 3052) ≤ 255 := hS97 3052
                have e112 : s97 3054 = (s 3054) := (f98 3054 (by decide))
                have b113 : 0 ≤ (s97 3054) ∧ (s97 3054) ≤ 8 := hS97 3054
                refine tt_k 2 (S' := (150, [some (.inr (.inl 30)), some (.inl 1)], [.inl 1, .inr (.inl 30)], n, D, s97, p, c)) rfl ?_
                have K114 : tt Zi d 165 (160, [some (.inr (.inl 30)), some (.inl 1)], [.inl 7, .inr (.inl 30)], n, D, s97, p, c) (fun R H => ∃ (s' : Nat → Int), R = .inl none ∧ H = (n, D, s', p, c) ∧ bS s' ∧ fr s s' [3049, 3050, 3051, 3052, 3053, 3054] ∧ (s 3049 ≤ s' 3049) ∧ (s' 3050 = 0 → 1 ≤ s' 3054) ∧ (s 3050 ≠ 0 → s' 3050 ≠ 0) ∧ (s 3049 ≤ 32768 → s' 3049 ≤ 32768)) := by
                  refine tt_k 1 (S' := (163, [some (.inr (.inl 30)), some (.inl 1)], [], n, D, (us s97 3054 7), p, c)) rfl ?_
                  exact tt_rtv rfl rfl ⟨(us s97 3054 7), rfl, rfl, (bS_us hS97 (show 0 ≤ 7 ∧ 7 ≤ 8 by omega)), (fr_us (by decide) (fr_tr (fr_us (by decide) (fr_us (by decide) (fr_us (by decide) fr_rf))) f98 (by decide))), by show s 3049 ≤ (s97 3049); omega, by show (s97 3050) = 0 → 1 ≤ 7; omega, by show s 3050 ≠ 0 → (s97 3050) ≠ 0; omega, by show s 3049 ≤ 32768 → (s97 3049) ≤ 32768; omega⟩
                refine tz_eq (x := 1) rfl rfl (by omega) (fun h116 => ?_) (fun h116 => ?_)
                · exfalso; omega
                · show tt Zi d 165 (153, [some (.inr (.inl 30)), some (.inl 1)], [.inr (.inl 30)], n, D, s97, p, c) _
                  refine tt_k 2 (S' := (160, [some (.inr (.inl 30)), some (.inl 1)], [.inl 7, .inr (.inl 30)], n, D, s97, p, c)) rfl ?_
                  exact K114
            · show tt Zi d 165 (108, [some (.inr (.inl 30)), some (.inl 1)], [], n, D, (us (us (us s 3053 (s 3049)) 3052 ((mi_and (c 34 ((s 3049)).toNat) 255))) 3049 ((s 3049) + 1)), p, c) _
              refine tt_k 4 (S' := (114, [some (.inr (.inl 30)), some (.inl 1)], [.inl (s 3014), .inl 1, .inr (.inl 30)], n, D, (us (us (us s 3053 (s 3049)) 3052 ((mi_and (c 34 ((s 3049)).toNat) 255))) 3049 ((s 3049) + 1)), p, c)) rfl ?_
              refine tt_cl (by omega) rfl (k_fail (Zi := Zi) (D := D) (s := (us (us (us s 3053 (s 3049)) 3052 ((mi_and (c 34 ((s 3049)).toNat) 255))) 3049 ((s 3049) + 1))) (p := p) (c := c) (by omega) (bS_us (bS_us (bS_us hS (show 0 ≤ (s 3049) ∧ (s 3049) ≤ 32768 by omega)) (show 0 ≤ (mi_and (c 34 ((s 3049)).toNat) 255) ∧ (mi_and (c 34 ((s 3049)).toNat) 255) ≤ 255 by omega)) (show 0 ≤ ((s 3049) + 1) ∧ ((s 3049) + 1) ≤ 32769 by omega)) hC 1 (s 3014) (by omega) (by omega)) ?_
              rintro _ _ ⟨s117, rfl, rfl, hS117, f118, k119, k120⟩
              show tt Zi d 165 (117, [some (.inr (.inl 30)), some (.inl 1)], [], n, D, s117, p, c) _
              have k119 : ((s 3050) = 0 → (s117 3050) = 1 ∧ (s117 3051) = (s 3014)) := k119
              have k120 : ((s 3050) ≠ 0 → (s117 3050) = (s 3050) ∧ (s117 3051) = (s 3051)) := k120
              have b121 : 0 ≤ (s117 3050) ∧ (s117 3050) ≤ 8 := hS117 3050
              have b122 : -1 ≤ (s117 3051) ∧ (s117 3051) ≤ 32769 := hS117 3051
              have b123 : -1 ≤ (s 3051) ∧ (s 3051) ≤ 32769 := hS 3051
              have e124 : s117 3049 = ((s 3049) + 1) := (f118 3049 (by decide))
              have b125 : 0 ≤ (s117 3049) ∧ (s117 3049) ≤ 32769 := hS117 3049
              have e126 : s117 3014 = (s 3014) := (f118 3014 (by decide))
              have b127 : 0 ≤ (s117 3014) ∧ (s117 3014) ≤ 32768 := hS117 3014
              have e128 : s117 3053 = (s 3049) := (f118 3053 (by decide))
              have b129 : 0 ≤ (s117 3053) ∧ (s117 3053) ≤ 32768 := hS117 3053
              have e130 : s117 3052 = (mi_and (c 34 ((s 3049)).toNat) 255) := (f118 3052 (by decide))
              have b131 : 0 ≤ (s117 3052) ∧ (s117 3052) ≤ 255 := hS117 3052
              have e132 : s117 3054 = (s 3054) := (f118 3054 (by decide))
              have b133 : 0 ≤ (s117 3054) ∧ (s117 3054) ≤ 8 := hS117 3054
              refine tt_k 3 (S' := (150, [some (.inr (.inl 30)), some (.inl 1)], [.inl 1, .inr (.inl 30)], n, D, s117, p, c)) rfl ?_
              have K134 : tt Zi d 165 (160, [some (.inr (.inl 30)), some (.inl 1)], [.inl 7, .inr (.inl 30)], n, D, s117, p, c) (fun R H => ∃ (s' : Nat → Int), R = .inl none ∧ H = (n, D, s', p, c) ∧ bS s' ∧ fr s s' [3049, 3050, 3051, 3052, 3053, 3054] ∧ (s 3049 ≤ s' 3049) ∧ (s' 3050 = 0 → 1 ≤ s' 3054) ∧ (s 3050 ≠ 0 → s' 3050 ≠ 0) ∧ (s 3049 ≤ 32768 → s' 3049 ≤ 32768)) := by
                refine tt_k 1 (S' := (163, [some (.inr (.inl 30)), some (.inl 1)], [], n, D, (us s117 3054 7), p, c)) rfl ?_
                exact tt_rtv rfl rfl ⟨(us s117 3054 7), rfl, rfl, (bS_us hS117 (show 0 ≤ 7 ∧ 7 ≤ 8 by omega)), (fr_us (by decide) (fr_tr (fr_us (by decide) (fr_us (by decide) (fr_us (by decide) fr_rf))) f118 (by decide))), by show s 3049 ≤ (s117 3049); omega, by show (s117 3050) = 0 → 1 ≤ 7; omega, by show s 3050 ≠ 0 → (s117 3050) ≠ 0; omega, by show s 3049 ≤ 32768 → (s117 3049) ≤ 32768; omega⟩
              refine tz_eq (x := 1) rfl rfl (by omega) (fun h136 => ?_) (fun h136 => ?_)
              · exfalso; omega
              · show tt Zi d 165 (153, [some (.inr (.inl 30)), some (.inl 1)], [.inr (.inl 30)], n, D, s117, p, c) _
                refine tt_k 2 (S' := (160, [some (.inr (.inl 30)), some (.inl 1)], [.inl 7, .inr (.inl 30)], n, D, s117, p, c)) rfl ?_
                exact K134
        · show tt Zi d 165 (42, [some (.inr (.inl 30)), some (.inl 1)], [], n, D, s, p, c) _
          refine tt_k 4 (S' := (48, [some (.inr (.inl 30)), some (.inl 1)], [.inl (s 3014), .inl 1, .inr (.inl 30)], n, D, s, p, c)) rfl ?_
          refine tt_cl (by omega) rfl (k_fail (Zi := Zi) (D := D) (s := s) (p := p) (c := c) (by omega) hS hC 1 (s 3014) (by omega) (by omega)) ?_
          rintro _ _ ⟨s137, rfl, rfl, hS137, f138, k139, k140⟩
          show tt Zi d 165 (51, [some (.inr (.inl 30)), some (.inl 1)], [], n, D, s137, p, c) _
          have k139 : ((s 3050) = 0 → (s137 3050) = 1 ∧ (s137 3051) = (s 3014)) := k139
          have k140 : ((s 3050) ≠ 0 → (s137 3050) = (s 3050) ∧ (s137 3051) = (s 3051)) := k140
          have b141 : 0 ≤ (s137 3050) ∧ (s137 3050) ≤ 8 := hS137 3050
          have b142 : -1 ≤ (s137 3051) ∧ (s137 3051) ≤ 32769 := hS137 3051
          have b143 : -1 ≤ (s 3051) ∧ (s 3051) ≤ 32769 := hS 3051
          have e144 : s137 3049 = (s 3049) := (f138 3049 (by decide))
          have b145 : 0 ≤ (s137 3049) ∧ (s137 3049) ≤ 32769 := hS137 3049
          have e146 : s137 3014 = (s 3014) := (f138 3014 (by decide))
          have b147 : 0 ≤ (s137 3014) ∧ (s137 3014) ≤ 32768 := hS137 3014
          have e148 : s137 3053 = (s 3053) := (f138 3053 (by decide))
          have b149 : 0 ≤ (s137 3053) ∧ (s137 3053) ≤ 32768 := hS137 3053
          have b150 : 0 ≤ (s 3053) ∧ (s 3053) ≤ 32768 := hS 3053
          have e151 : s137 3052 = (s 3052) := (f138 3052 (by decide))
          have b152 : 0 ≤ (s137 3052) ∧ (s137 3052) ≤ 255 := hS137 3052
          have e153 : s137 3054 = (s 3054) := (f138 3054 (by decide))
          have b154 : 0 ≤ (s137 3054) ∧ (s137 3054) ≤ 8 := hS137 3054
          exact tt_rtv rfl rfl ⟨s137, rfl, rfl, hS137, (fr_tr fr_rf f138 (by decide)), by show s 3049 ≤ (s137 3049); omega, by show (s137 3050) = 0 → 1 ≤ (s137 3054); omega, by show s 3050 ≠ 0 → (s137 3050) ≠ 0; omega, by show s 3049 ≤ 32768 → (s137 3049) ≤ 32768; omega⟩
    · show tt Zi d 165 (14, [some (.inr (.inl 30)), none], [], n, D, s, p, c) _
      exact tt_rtv rfl rfl ⟨s, rfl, rfl, hS, fr_rf, by show s 3049 ≤ (s 3049); omega, by show (s 3050) = 0 → 1 ≤ (s 3054); omega, by show s 3050 ≠ 0 → (s 3050) ≠ 0; omega, by show s 3049 ≤ 32768 → (s 3049) ≤ 32768; omega⟩
set_option maxRecDepth 100000 in
set_option maxHeartbeats 4000000 in
theorem k_bit {Zi : Nat → Option (Nat × (Nat → Int))} {d n : Nat} {D : Nat → Nat × Nat} {s : Nat → Int} {p : Nat → Nat} {c : Nat → Nat → Int} (hd : 2 ≤ d) (hS : bS s) (hC : bC D c)  : tt Zi d 168 (0, [some (.inr (.inl 30))], [], n, D, s, p, c) (fun R H => ∃ (s' : Nat → Int) (r : Int), R = .inl (some (.inl r)) ∧ H = (n, D, s', p, c) ∧ bS s' ∧ fr s s' [3049, 3050, 3051, 3052, 3053, 3054] ∧ (0 ≤ r ∧ r ≤ 1) ∧ (s 3049 ≤ s' 3049) ∧ (s 3050 ≠ 0 → s' 3050 ≠ 0) ∧ (s 3049 ≤ 32768 → s' 3049 ≤ 32768)) := by
  refine tt_k 1 (S' := (1, [some (.inr (.inl 30))], [.inr (.inl 30)], n, D, s, p, c)) rfl ?_
  refine tt_cl (by omega) rfl (k_ready (Zi := Zi) (D := D) (s := s) (p := p) (c := c) (by omega) hS hC ) ?_
  rintro _ _ ⟨s1, rfl, rfl, hS1, f2, k3, k4, k5, k6⟩
  show tt Zi d 168 (4, [some (.inr (.inl 30))], [], n, D, s1, p, c) _
  have k3 : (s 3049) ≤ (s1 3049) := k3
  have k4 : (s1 3050) = 0 → 1 ≤ (s1 3054) := k4
  have k5 : (s 3050) ≠ 0 → (s1 3050) ≠ 0 := k5
  have k6 : (s 3049) ≤ 32768 → (s1 3049) ≤ 32768 := k6
  have b7 : 0 ≤ (s 3049) ∧ (s 3049) ≤ 32769 := hS 3049
  have b8 : 0 ≤ (s1 3049) ∧ (s1 3049) ≤ 32769 := hS1 3049
  have b9 : 0 ≤ (s1 3050) ∧ (s1 3050) ≤ 8 := hS1 3050
  have b10 : 0 ≤ (s1 3054) ∧ (s1 3054) ≤ 8 := hS1 3054
  have b11 : 0 ≤ (s 3050) ∧ (s 3050) ≤ 8 := hS 3050
  refine tt_k 2 (S' := (8, [some (.inr (.inl 30))], [.inl (s1 3050)], n, D, s1, p, c)) rfl ?_
  refine tz_le (x := (s1 3050)) rfl rfl (by omega) (fun h12 => ?_) (fun h12 => ?_)
  · show tt Zi d 168 (13, [some (.inr (.inl 30))], [], n, D, s1, p, c) _
    refine tt_k 13 (S' := (34, [some (.inr (.inl 30))], [.inl ((mi_and (mi_shr (s1 3052) ((s1 3054) - 1)) 1))], n, D, (us s1 3054 ((s1 3054) - 1)), p, c)) rfl ?_
    have b13 : 0 ≤ (s1 3052) ∧ (s1 3052) ≤ 255 := hS1 3052
    have e14 := mi_shr_bd (s1 3052) ((s1 3054) - 1)
    have e15 := mi_and1 ((mi_shr (s1 3052) ((s1 3054) - 1)))
    exact tt_rti rfl rfl ⟨(us s1 3054 ((s1 3054) - 1)), (mi_and (mi_shr (s1 3052) ((s1 3054) - 1)) 1), rfl, rfl, (bS_us hS1 (show 0 ≤ ((s1 3054) - 1) ∧ ((s1 3054) - 1) ≤ 8 by omega)), (fr_us (by decide) (fr_tr fr_rf f2 (by decide))), by omega, by show s 3049 ≤ (s1 3049); omega, by show s 3050 ≠ 0 → (s1 3050) ≠ 0; omega, by show s 3049 ≤ 32768 → (s1 3049) ≤ 32768; omega⟩
  · show tt Zi d 168 (11, [some (.inr (.inl 30))], [], n, D, s1, p, c) _
    refine tt_k 1 (S' := (12, [some (.inr (.inl 30))], [.inl 0], n, D, s1, p, c)) rfl ?_
    exact tt_rti rfl rfl ⟨s1, 0, rfl, rfl, hS1, (fr_tr fr_rf f2 (by decide)), by omega, by show s 3049 ≤ (s1 3049); omega, by show s 3050 ≠ 0 → (s1 3050) ≠ 0; omega, by show s 3049 ≤ 32768 → (s1 3049) ≤ 32768; omega⟩
set_option maxRecDepth 100000 in
set_option maxHeartbeats 4000000 in
theorem k_bits_L4 {Zi : Nat → Option (Nat × (Nat → Int))} {d n : Nat} {D : Nat → Nat × Nat} {s : Nat → Int} {p : Nat → Nat} {c : Nat → Nat → Int}  {Q : mi_Rs → mi_H → Prop} (hd : 3 ≤ d) (hS : bS s) (hC : bC D c) (n_ : Int) (b_n_ : 0 ≤ n_ ∧ n_ ≤ 30)
  (hK : ∀ (v : Int) (k : Int) (s0 : Nat → Int) (b_v : 0 ≤ v ∧ v ≤ 1073741823) (b_k : 0 ≤ k ∧ k ≤ 30) (hS0 : bS s0) (hF0 : fr s s0 [3049, 3050, 3051, 3052, 3053, 3054]) (i0 : k ≤ n_) (i1 : v < 2 ^ k.toNat) (i2 : s 3049 ≤ s0 3049) (i3 : s 3050 ≠ 0 → s0 3050 ≠ 0) (i4 : s 3049 ≤ 32768 → s0 3049 ≤ 32768), True → tt Zi d 169 (31, [some (.inr (.inl 30)), some (.inl n_), some (.inl v), some (.inl k)], [], n, D, s0, p, c) Q) :
  ∀ (m : Nat) (v : Int) (k : Int) (s0 : Nat → Int) (b_v : 0 ≤ v ∧ v ≤ 1073741823) (b_k : 0 ≤ k ∧ k ≤ 30) (hS0 : bS s0) (hF0 : fr s s0 [3049, 3050, 3051, 3052, 3053, 3054]) (i0 : k ≤ n_) (i1 : v < 2 ^ k.toNat) (i2 : s 3049 ≤ s0 3049) (i3 : s 3050 ≠ 0 → s0 3050 ≠ 0) (i4 : s 3049 ≤ 32768 → s0 3049 ≤ 32768), (n_ - k).toNat < m → tt Zi d 169 (4, [some (.inr (.inl 30)), some (.inl n_), some (.inl v), some (.inl k)], [], n, D, s0, p, c) Q := by
  intro m
  induction m with
  | zero => intro v k s0 b_v b_k hS0 hF0 i0 i1 i2 i3 i4 hm; exact absurd hm (by omega)
  | succ m ih =>
    intro v k s0 b_v b_k hS0 hF0 i0 i1 i2 i3 i4 hm
    refine tt_k 2 (S' := (6, [some (.inr (.inl 30)), some (.inl n_), some (.inl v), some (.inl k)], [.inl n_, .inl k], n, D, s0, p, c)) rfl ?_
    refine tb_ge (x := k) (y := n_) rfl rfl (by omega) (fun h1 => ?_) (fun h1 => ?_)
    · show tt Zi d 169 (31, [some (.inr (.inl 30)), some (.inl n_), some (.inl v), some (.inl k)], [], n, D, s0, p, c) _
      exact hK v k s0 (by omega) (by omega) hS0 hF0 i0 i1 i2 i3 i4 trivial
    · show tt Zi d 169 (9, [some (.inr (.inl 30)), some (.inl n_), some (.inl v), some (.inl k)], [], n, D, s0, p, c) _
      refine tt_k 2 (S' := (13, [some (.inr (.inl 30)), some (.inl n_), some (.inl v), some (.inl k)], [.inl (s0 3050)], n, D, s0, p, c)) rfl ?_
      have b2 : 0 ≤ (s0 3050) ∧ (s0 3050) ≤ 8 := hS0 3050
      refine tz_ne (x := (s0 3050)) rfl rfl (by omega) (fun h3 => ?_) (fun h3 => ?_)
      · show tt Zi d 169 (31, [some (.inr (.inl 30)), some (.inl n_), some (.inl v), some (.inl k)], [], n, D, s0, p, c) _
        exact hK v k s0 (by omega) (by omega) hS0 hF0 i0 i1 i2 i3 i4 trivial
      · show tt Zi d 169 (16, [some (.inr (.inl 30)), some (.inl n_), some (.inl v), some (.inl k)], [], n, D, s0, p, c) _
        refine tt_k 4 (S' := (20, [some (.inr (.inl 30)), some (.inl n_), some (.inl v), some (.inl k)], [.inr (.inl 30), .inl (2 * v)], n, D, s0, p, c)) rfl ?_
        refine tt_cl (by omega) rfl (k_bit (Zi := Zi) (D := D) (s := s0) (p := p) (c := c) (by omega) hS0 hC ) ?_
        rintro _ _ ⟨s4, r5, rfl, rfl, hS4, f6, b7, k8, k9, k10⟩
        show tt Zi d 169 (23, [some (.inr (.inl 30)), some (.inl n_), some (.inl v), some (.inl k)], [.inl r5, .inl (2 * v)], n, D, s4, p, c) _
        have k8 : (s0 3049) ≤ (s4 3049) := k8
        have k9 : (s0 3050) ≠ 0 → (s4 3050) ≠ 0 := k9
        have k10 : (s0 3049) ≤ 32768 → (s4 3049) ≤ 32768 := k10
        have b11 : 0 ≤ (s0 3049) ∧ (s0 3049) ≤ 32769 := hS0 3049
        have b12 : 0 ≤ (s4 3049) ∧ (s4 3049) ≤ 32769 := hS4 3049
        have b13 : 0 ≤ (s4 3050) ∧ (s4 3050) ≤ 8 := hS4 3050
        refine tt_k 4 (S' := (4, [some (.inr (.inl 30)), some (.inl n_), some (.inl ((2 * v) + r5)), some (.inl (k + 1))], [], n, D, s4, p, c)) rfl ?_
        have hp1 := pw_s (k := k) (by omega)
        have hp2 := mi_pw (a := (k + 1).toNat) (b := 30) (by omega)
        have hp3 : (2 : Int) ^ 30 = 1073741824 := by decide
        exact ih ((2 * v) + r5) (k + 1) s4 (by omega) (by omega) hS4 (fr_tr hF0 f6 (by decide)) (show (k + 1) ≤ n_ by omega) (show ((2 * v) + r5) < 2 ^ (k + 1).toNat by omega) (show s 3049 ≤ (s4 3049) by omega) (show s 3050 ≠ 0 → (s4 3050) ≠ 0 by omega) (show s 3049 ≤ 32768 → (s4 3049) ≤ 32768 by omega) (show (n_ - (k + 1)).toNat < m by omega)
set_option maxRecDepth 100000 in
set_option maxHeartbeats 4000000 in
theorem k_bits {Zi : Nat → Option (Nat × (Nat → Int))} {d n : Nat} {D : Nat → Nat × Nat} {s : Nat → Int} {p : Nat → Nat} {c : Nat → Nat → Int} (hd : 3 ≤ d) (hS : bS s) (hC : bC D c) (n_ : Int) (b_n_ : 0 ≤ n_ ∧ n_ ≤ 30) : tt Zi d 169 (0, [some (.inr (.inl 30)), some (.inl n_), none, none], [], n, D, s, p, c) (fun R H => ∃ (s' : Nat → Int) (r : Int), R = .inl (some (.inl r)) ∧ H = (n, D, s', p, c) ∧ bS s' ∧ fr s s' [3049, 3050, 3051, 3052, 3053, 3054] ∧ (0 ≤ r ∧ r ≤ 1073741823) ∧ (s 3049 ≤ s' 3049) ∧ (r < 2 ^ n_.toNat) ∧ (s 3050 ≠ 0 → s' 3050 ≠ 0) ∧ (s 3049 ≤ 32768 → s' 3049 ≤ 32768)) := by
  refine tt_k 4 (S' := (4, [some (.inr (.inl 30)), some (.inl n_), some (.inl 0), some (.inl 0)], [], n, D, s, p, c)) rfl ?_
  refine k_bits_L4 (Zi := Zi) (D := D) (s := s) (p := p) (c := c) hd hS hC  n_ (by omega) ?_ _ 0 0 s (by omega) (by omega) hS fr_rf (show 0 ≤ n_ by omega) (by decide) (Int.le_refl _) (fun h => h) (fun h => h) (Nat.lt_succ_self _)
  intro x1 x2 s3 b4 b5 hS3 f6 i7 i8 i9 i10 i11 hx12
  show tt Zi d 169 (31, [some (.inr (.inl 30)), some (.inl n_), some (.inl x1), some (.inl x2)], [], n, D, s3, p, c) _
  have hp4 := mi_pw (a := (x2).toNat) (b := n_.toNat) (by omega)
  refine tt_k 1 (S' := (32, [some (.inr (.inl 30)), some (.inl n_), some (.inl x1), some (.inl x2)], [.inl x1], n, D, s3, p, c)) rfl ?_
  exact tt_rti rfl rfl ⟨s3, x1, rfl, rfl, hS3, (fr_tr fr_rf f6 (by decide)), by omega, by show s 3049 ≤ (s3 3049); omega, by show x1 < 2 ^ n_.toNat; omega, by show s 3050 ≠ 0 → (s3 3050) ≠ 0; omega, by show s 3049 ≤ 32768 → (s3 3049) ≤ 32768; omega⟩
set_option maxRecDepth 100000 in
set_option maxHeartbeats 4000000 in
theorem k_number_L12 {Zi : Nat → Option (Nat × (Nat → Int))} {d n : Nat} {D : Nat → Nat × Nat} {s : Nat → Int} {p : Nat → Nat} {c : Nat → Nat → Int}  {Q : mi_Rs → mi_H → Prop} (hd : 4 ≤ d) (hS : bS s) (hC : bC D c) (k_ : Int) (l_ : Int) (wh : Int) (b_k_ : 0 ≤ k_ ∧ k_ ≤ 16) (b_l_ : 1 ≤ l_ ∧ l_ ≤ 96) (b_wh : 0 ≤ wh ∧ wh ≤ 32768) (hq0 : 0 ≤ l_ - s 3025 - 1 ∧ l_ - s 3025 - 1 ≤ 64 ∧ s 3025 ≤ 16)
  (hK : ∀ (z : Int) (s0 : Nat → Int) (b_z : 0 ≤ z ∧ z ≤ 66) (hS0 : bS s0) (hF0 : fr s s0 [3049, 3050, 3051, 3052, 3053, 3054]) (i0 : z ≤ l_ - s 3025) (i1 : s0 3050 = 0 → z ≤ l_ - s 3025 - 1) (i2 : s 3049 ≤ s0 3049) (i3 : s 3050 ≠ 0 → s0 3050 ≠ 0) (i4 : s 3049 ≤ 32768 → s0 3049 ≤ 32768), True → tt Zi d 167 (59, [some (.inr (.inl 30)), some (.inl k_), some (.inl l_), some (.inl wh), some (.inl z)], [], n, D, s0, p, c) Q) :
  ∀ (m : Nat) (z : Int) (s0 : Nat → Int) (b_z : 0 ≤ z ∧ z ≤ 66) (hS0 : bS s0) (hF0 : fr s s0 [3049, 3050, 3051, 3052, 3053, 3054]) (i0 : z ≤ l_ - s 3025) (i1 : s0 3050 = 0 → z ≤ l_ - s 3025 - 1) (i2 : s 3049 ≤ s0 3049) (i3 : s 3050 ≠ 0 → s0 3050 ≠ 0) (i4 : s 3049 ≤ 32768 → s0 3049 ≤ 32768), (if s0 3050 = 0 then l_ - s 3025 - z + 1 else 0).toNat < m → tt Zi d 167 (12, [some (.inr (.inl 30)), some (.inl k_), some (.inl l_), some (.inl wh), some (.inl z)], [], n, D, s0, p, c) Q := by
  intro m
  induction m with
  | zero => intro z s0 b_z hS0 hF0 i0 i1 i2 i3 i4 hm; exact absurd hm (by omega)
  | succ m ih =>
    intro z s0 b_z hS0 hF0 i0 i1 i2 i3 i4 hm
    have e1 : s0 3025 = s 3025 := hF0 3025 (by decide)
    have b2 : 0 ≤ (s0 3025) ∧ (s0 3025) ≤ 31 := hS0 3025
    have b3 : 0 ≤ (s 3025) ∧ (s 3025) ≤ 31 := hS 3025
    refine tt_k 2 (S' := (16, [some (.inr (.inl 30)), some (.inl k_), some (.inl l_), some (.inl wh), some (.inl z)], [.inl (s0 3050)], n, D, s0, p, c)) rfl ?_
    have b4 : 0 ≤ (s0 3050) ∧ (s0 3050) ≤ 8 := hS0 3050
    refine tz_ne (x := (s0 3050)) rfl rfl (by omega) (fun h5 => ?_) (fun h5 => ?_)
    · show tt Zi d 167 (59, [some (.inr (.inl 30)), some (.inl k_), some (.inl l_), some (.inl wh), some (.inl z)], [], n, D, s0, p, c) _
      exact hK z s0 (by omega) hS0 hF0 (show z ≤ l_ - s 3025 by omega) (show (s0 3050) = 0 → z ≤ l_ - s 3025 - 1 by omega) (show s 3049 ≤ (s0 3049) by omega) (show s 3050 ≠ 0 → (s0 3050) ≠ 0 by omega) (show s 3049 ≤ 32768 → (s0 3049) ≤ 32768 by omega) trivial
    · show tt Zi d 167 (19, [some (.inr (.inl 30)), some (.inl k_), some (.inl l_), some (.inl wh), some (.inl z)], [], n, D, s0, p, c) _
      refine tt_k 1 (S' := (20, [some (.inr (.inl 30)), some (.inl k_), some (.inl l_), some (.inl wh), some (.inl z)], [.inr (.inl 30)], n, D, s0, p, c)) rfl ?_
      refine tt_cl (by omega) rfl (k_bit (Zi := Zi) (D := D) (s := s0) (p := p) (c := c) (by omega) hS0 hC ) ?_
      rintro _ _ ⟨s6, r7, rfl, rfl, hS6, f8, b9, k10, k11, k12⟩
      show tt Zi d 167 (23, [some (.inr (.inl 30)), some (.inl k_), some (.inl l_), some (.inl wh), some (.inl z)], [.inl r7], n, D, s6, p, c) _
      have k10 : (s0 3049) ≤ (s6 3049) := k10
      have k11 : (s0 3050) ≠ 0 → (s6 3050) ≠ 0 := k11
      have k12 : (s0 3049) ≤ 32768 → (s6 3049) ≤ 32768 := k12
      have b13 : 0 ≤ (s0 3049) ∧ (s0 3049) ≤ 32769 := hS0 3049
      have b14 : 0 ≤ (s6 3049) ∧ (s6 3049) ≤ 32769 := hS6 3049
      have b15 : 0 ≤ (s6 3050) ∧ (s6 3050) ≤ 8 := hS6 3050
      have e16 : s6 3025 = (s0 3025) := (f8 3025 (by decide))
      have b17 : 0 ≤ (s6 3025) ∧ (s6 3025) ≤ 31 := hS6 3025
      refine tz_ne (x := r7) rfl rfl (by omega) (fun h18 => ?_) (fun h18 => ?_)
      · show tt Zi d 167 (59, [some (.inr (.inl 30)), some (.inl k_), some (.inl l_), some (.inl wh), some (.inl z)], [], n, D, s6, p, c) _
        exact hK z s6 (by omega) hS6 (fr_tr hF0 f8 (by decide)) (show z ≤ l_ - s 3025 by omega) (show (s6 3050) = 0 → z ≤ l_ - s 3025 - 1 by omega) (show s 3049 ≤ (s6 3049) by omega) (show s 3050 ≠ 0 → (s6 3050) ≠ 0 by omega) (show s 3049 ≤ 32768 → (s6 3049) ≤ 32768 by omega) trivial
      · show tt Zi d 167 (26, [some (.inr (.inl 30)), some (.inl k_), some (.inl l_), some (.inl wh), some (.inl z)], [], n, D, s6, p, c) _
        refine tt_k 3 (S' := (33, [some (.inr (.inl 30)), some (.inl k_), some (.inl l_), some (.inl wh), some (.inl (z + 1))], [.inl (s6 3050)], n, D, s6, p, c)) rfl ?_
        refine tz_ne (x := (s6 3050)) rfl rfl (by omega) (fun h19 => ?_) (fun h19 => ?_)
        · show tt Zi d 167 (12, [some (.inr (.inl 30)), some (.inl k_), some (.inl l_), some (.inl wh), some (.inl (z + 1))], [], n, D, s6, p, c) _
          exact ih (z + 1) s6 (by omega) hS6 (fr_tr hF0 f8 (by decide)) (show (z + 1) ≤ l_ - s 3025 by omega) (show (s6 3050) = 0 → (z + 1) ≤ l_ - s 3025 - 1 by omega) (show s 3049 ≤ (s6 3049) by omega) (show s 3050 ≠ 0 → (s6 3050) ≠ 0 by omega) (show s 3049 ≤ 32768 → (s6 3049) ≤ 32768 by omega) (show (if (s6 3050) = 0 then l_ - s 3025 - (z + 1) + 1 else 0).toNat < m by omega)
        · show tt Zi d 167 (36, [some (.inr (.inl 30)), some (.inl k_), some (.inl l_), some (.inl wh), some (.inl (z + 1))], [], n, D, s6, p, c) _
          refine tt_k 7 (S' := (46, [some (.inr (.inl 30)), some (.inl k_), some (.inl l_), some (.inl wh), some (.inl (z + 1))], [.inl (((l_ - (s6 3025)) - 1)), .inl (z + 1)], n, D, s6, p, c)) rfl ?_
          refine tb_le (x := (z + 1)) (y := ((l_ - (s6 3025)) - 1)) rfl rfl (by omega) (fun h20 => ?_) (fun h20 => ?_)
          · show tt Zi d 167 (12, [some (.inr (.inl 30)), some (.inl k_), some (.inl l_), some (.inl wh), some (.inl (z + 1))], [], n, D, s6, p, c) _
            exact ih (z + 1) s6 (by omega) hS6 (fr_tr hF0 f8 (by decide)) (show (z + 1) ≤ l_ - s 3025 by omega) (show (s6 3050) = 0 → (z + 1) ≤ l_ - s 3025 - 1 by omega) (show s 3049 ≤ (s6 3049) by omega) (show s 3050 ≠ 0 → (s6 3050) ≠ 0 by omega) (show s 3049 ≤ 32768 → (s6 3049) ≤ 32768 by omega) (show (if (s6 3050) = 0 then l_ - s 3025 - (z + 1) + 1 else 0).toNat < m by omega)
          · show tt Zi d 167 (49, [some (.inr (.inl 30)), some (.inl k_), some (.inl l_), some (.inl wh), some (.inl (z + 1))], [], n, D, s6, p, c) _
            refine tt_k 3 (S' := (53, [some (.inr (.inl 30)), some (.inl k_), some (.inl l_), some (.inl wh), some (.inl (z + 1))], [.inl wh, .inl 7, .inr (.inl 30)], n, D, s6, p, c)) rfl ?_
            refine tt_cl (by omega) rfl (k_fail (Zi := Zi) (D := D) (s := s6) (p := p) (c := c) (by omega) hS6 hC 7 wh (by omega) (by omega)) ?_
            rintro _ _ ⟨s21, rfl, rfl, hS21, f22, k23, k24⟩
            show tt Zi d 167 (56, [some (.inr (.inl 30)), some (.inl k_), some (.inl l_), some (.inl wh), some (.inl (z + 1))], [], n, D, s21, p, c) _
            have k23 : ((s6 3050) = 0 → (s21 3050) = 7 ∧ (s21 3051) = wh) := k23
            have k24 : ((s6 3050) ≠ 0 → (s21 3050) = (s6 3050) ∧ (s21 3051) = (s6 3051)) := k24
            have b25 : 0 ≤ (s21 3050) ∧ (s21 3050) ≤ 8 := hS21 3050
            have b26 : -1 ≤ (s21 3051) ∧ (s21 3051) ≤ 32769 := hS21 3051
            have b27 : -1 ≤ (s6 3051) ∧ (s6 3051) ≤ 32769 := hS6 3051
            have e28 : s21 3025 = (s6 3025) := (f22 3025 (by decide))
            have b29 : 0 ≤ (s21 3025) ∧ (s21 3025) ≤ 31 := hS21 3025
            have e30 : s21 3049 = (s6 3049) := (f22 3049 (by decide))
            have b31 : 0 ≤ (s21 3049) ∧ (s21 3049) ≤ 32769 := hS21 3049
            refine tt_k 1 (S' := (12, [some (.inr (.inl 30)), some (.inl k_), some (.inl l_), some (.inl wh), some (.inl (z + 1))], [], n, D, s21, p, c)) rfl ?_
            exact ih (z + 1) s21 (by omega) hS21 (fr_tr (fr_tr hF0 f8 (by decide)) f22 (by decide)) (show (z + 1) ≤ l_ - s 3025 by omega) (show (s21 3050) = 0 → (z + 1) ≤ l_ - s 3025 - 1 by omega) (show s 3049 ≤ (s21 3049) by omega) (show s 3050 ≠ 0 → (s21 3050) ≠ 0 by omega) (show s 3049 ≤ 32768 → (s21 3049) ≤ 32768 by omega) (show (if (s21 3050) = 0 then l_ - s 3025 - (z + 1) + 1 else 0).toNat < m by omega)
set_option maxRecDepth 100000 in
set_option maxHeartbeats 4000000 in
theorem k_number {Zi : Nat → Option (Nat × (Nat → Int))} {d n : Nat} {D : Nat → Nat × Nat} {s : Nat → Int} {p : Nat → Nat} {c : Nat → Nat → Int} (hd : 4 ≤ d) (hS : bS s) (hC : bC D c) (k_ : Int) (l_ : Int) (b_k_ : 0 ≤ k_ ∧ k_ ≤ 16) (b_l_ : 1 ≤ l_ ∧ l_ ≤ 96) (hp0 : 0 ≤ l_ - s 3025 - 1 ∧ l_ - s 3025 - 1 ≤ 64 ∧ s 3025 ≤ 16) : tt Zi d 167 (0, [some (.inr (.inl 30)), some (.inl k_), some (.inl l_), none, none], [], n, D, s, p, c) (fun R H => ∃ (s' : Nat → Int) (r : Int), R = .inl (some (.inl r)) ∧ H = (n, D, s', p, c) ∧ bS s' ∧ fr s s' [3049, 3050, 3051, 3052, 3053, 3054] ∧ (0 ≤ r ∧ r ≤ 1073741823) ∧ (s 3049 ≤ s' 3049) ∧ (s 3050 ≠ 0 → s' 3050 ≠ 0) ∧ (s 3049 ≤ 32768 → s' 3049 ≤ 32768)) := by
  refine tt_k 1 (S' := (1, [some (.inr (.inl 30)), some (.inl k_), some (.inl l_), none, none], [.inr (.inl 30)], n, D, s, p, c)) rfl ?_
  refine tt_cl (by omega) rfl (k_ready (Zi := Zi) (D := D) (s := s) (p := p) (c := c) (by omega) hS hC ) ?_
  rintro _ _ ⟨s1, rfl, rfl, hS1, f2, k3, k4, k5, k6⟩
  show tt Zi d 167 (4, [some (.inr (.inl 30)), some (.inl k_), some (.inl l_), none, none], [], n, D, s1, p, c) _
  have k3 : (s 3049) ≤ (s1 3049) := k3
  have k4 : (s1 3050) = 0 → 1 ≤ (s1 3054) := k4
  have k5 : (s 3050) ≠ 0 → (s1 3050) ≠ 0 := k5
  have k6 : (s 3049) ≤ 32768 → (s1 3049) ≤ 32768 := k6
  have b7 : 0 ≤ (s 3049) ∧ (s 3049) ≤ 32769 := hS 3049
  have b8 : 0 ≤ (s1 3049) ∧ (s1 3049) ≤ 32769 := hS1 3049
  have b9 : 0 ≤ (s1 3050) ∧ (s1 3050) ≤ 8 := hS1 3050
  have b10 : 0 ≤ (s1 3054) ∧ (s1 3054) ≤ 8 := hS1 3054
  have b11 : 0 ≤ (s 3050) ∧ (s 3050) ≤ 8 := hS 3050
  have e12 : s1 3025 = (s 3025) := (f2 3025 (by decide))
  have b13 : 0 ≤ (s1 3025) ∧ (s1 3025) ≤ 31 := hS1 3025
  have b14 : 0 ≤ (s 3025) ∧ (s 3025) ≤ 31 := hS 3025
  refine tt_k 5 (S' := (12, [some (.inr (.inl 30)), some (.inl k_), some (.inl l_), some (.inl (s1 3053)), some (.inl 0)], [], n, D, s1, p, c)) rfl ?_
  have b15 : 0 ≤ (s1 3053) ∧ (s1 3053) ≤ 32768 := hS1 3053
  refine k_number_L12 (Zi := Zi) (D := D) (s := s1) (p := p) (c := c) hd hS1 hC  k_ l_ (s1 3053) (by omega) (by omega) (by omega) (show 0 ≤ l_ - (s1 3025) - 1 ∧ l_ - (s1 3025) - 1 ≤ 64 ∧ (s1 3025) ≤ 16 by omega) ?_ _ 0 s1 (by omega) hS1 fr_rf (show 0 ≤ l_ - (s1 3025) by omega) (show (s1 3050) = 0 → 0 ≤ l_ - (s1 3025) - 1 by omega) (Int.le_refl _) (fun h => h) (fun h => h) (Nat.lt_succ_self _)
  intro x16 s17 b18 hS17 f19 i20 i21 i22 i23 i24 hx25
  show tt Zi d 167 (59, [some (.inr (.inl 30)), some (.inl k_), some (.inl l_), some (.inl (s1 3053)), some (.inl x16)], [], n, D, s17, p, c) _
  have e26 : s17 3025 = (s1 3025) := (f19 3025 (by decide))
  have b27 : 0 ≤ (s17 3025) ∧ (s17 3025) ≤ 31 := hS17 3025
  refine tt_k 2 (S' := (63, [some (.inr (.inl 30)), some (.inl k_), some (.inl l_), some (.inl (s1 3053)), some (.inl x16)], [.inl (s17 3050)], n, D, s17, p, c)) rfl ?_
  have b28 : 0 ≤ (s17 3050) ∧ (s17 3050) ≤ 8 := hS17 3050
  refine tz_le (x := (s17 3050)) rfl rfl (by omega) (fun h29 => ?_) (fun h29 => ?_)
  · show tt Zi d 167 (68, [some (.inr (.inl 30)), some (.inl k_), some (.inl l_), some (.inl (s1 3053)), some (.inl x16)], [], n, D, s17, p, c) _
    refine tt_k 7 (S' := (78, [some (.inr (.inl 30)), some (.inl k_), some (.inl l_), some (.inl (s1 3053)), some (.inl x16)], [.inl (((l_ - (s17 3025)) - 1)), .inl x16], n, D, s17, p, c)) rfl ?_
    refine tb_ge (x := x16) (y := ((l_ - (s17 3025)) - 1)) rfl rfl (by omega) (fun h30 => ?_) (fun h30 => ?_)
    · show tt Zi d 167 (94, [some (.inr (.inl 30)), some (.inl k_), some (.inl l_), some (.inl (s1 3053)), some (.inl x16)], [], n, D, s17, p, c) _
      refine tt_k 3 (S' := (99, [some (.inr (.inl 30)), some (.inl k_), some (.inl l_), some (.inl (s1 3053)), some (.inl x16)], [.inl (s17 3025), .inr (.inl 30)], n, D, s17, p, c)) rfl ?_
      refine tt_cl (by omega) rfl (k_bits (Zi := Zi) (D := D) (s := s17) (p := p) (c := c) (by omega) hS17 hC (s17 3025) (by omega)) ?_
      rintro _ _ ⟨s31, r32, rfl, rfl, hS31, f33, b34, k35, k36, k37, k38⟩
      show tt Zi d 167 (102, [some (.inr (.inl 30)), some (.inl k_), some (.inl l_), some (.inl (s1 3053)), some (.inl x16)], [.inl r32], n, D, s31, p, c) _
      have k35 : (s17 3049) ≤ (s31 3049) := k35
      have k36 : r32 < 2 ^ (s17 3025).toNat := k36
      have k37 : (s17 3050) ≠ 0 → (s31 3050) ≠ 0 := k37
      have k38 : (s17 3049) ≤ 32768 → (s31 3049) ≤ 32768 := k38
      have b39 : 0 ≤ (s17 3049) ∧ (s17 3049) ≤ 32769 := hS17 3049
      have b40 : 0 ≤ (s31 3049) ∧ (s31 3049) ≤ 32769 := hS31 3049
      have b41 : 0 ≤ (s31 3050) ∧ (s31 3050) ≤ 8 := hS31 3050
      have e42 : s31 3025 = (s17 3025) := (f33 3025 (by decide))
      have b43 : 0 ≤ (s31 3025) ∧ (s31 3025) ≤ 31 := hS31 3025
      have hq16 := mi_pw (a := ((s17 3025)).toNat) (b := 16) (by omega)
      have hq17 : (2 : Int) ^ 16 = 65536 := by decide
      refine tt_k 2 (S' := (104, [some (.inr (.inl 30)), some (.inl k_), some (.inl l_), some (.inl (s1 3053)), some (.inl x16)], [.inl (r32 + 1)], n, D, s31, p, c)) rfl ?_
      exact tt_rti rfl rfl ⟨s31, (r32 + 1), rfl, rfl, hS31, (fr_tr (fr_tr (fr_tr fr_rf f2 (by decide)) f19 (by decide)) f33 (by decide)), by omega, by show s 3049 ≤ (s31 3049); omega, by show s 3050 ≠ 0 → (s31 3050) ≠ 0; omega, by show s 3049 ≤ 32768 → (s31 3049) ≤ 32768; omega⟩
    · show tt Zi d 167 (81, [some (.inr (.inl 30)), some (.inl k_), some (.inl l_), some (.inl (s1 3053)), some (.inl x16)], [], n, D, s17, p, c) _
      refine tt_k 5 (S' := (87, [some (.inr (.inl 30)), some (.inl k_), some (.inl l_), some (.inl (s1 3053)), some (.inl x16)], [.inl k_, .inr (.inl 30), .inl (mi_shl x16 k_)], n, D, s17, p, c)) rfl ?_
      refine tt_cl (by omega) rfl (k_bits (Zi := Zi) (D := D) (s := s17) (p := p) (c := c) (by omega) hS17 hC k_ (by omega)) ?_
      rintro _ _ ⟨s44, r45, rfl, rfl, hS44, f46, b47, k48, k49, k50, k51⟩
      show tt Zi d 167 (90, [some (.inr (.inl 30)), some (.inl k_), some (.inl l_), some (.inl (s1 3053)), some (.inl x16)], [.inl r45, .inl (mi_shl x16 k_)], n, D, s44, p, c) _
      have k48 : (s17 3049) ≤ (s44 3049) := k48
      have k49 : r45 < 2 ^ k_.toNat := k49
      have k50 : (s17 3050) ≠ 0 → (s44 3050) ≠ 0 := k50
      have k51 : (s17 3049) ≤ 32768 → (s44 3049) ≤ 32768 := k51
      have b52 : 0 ≤ (s17 3049) ∧ (s17 3049) ≤ 32769 := hS17 3049
      have b53 : 0 ≤ (s44 3049) ∧ (s44 3049) ≤ 32769 := hS44 3049
      have b54 : 0 ≤ (s44 3050) ∧ (s44 3050) ≤ 8 := hS44 3050
      have e55 : s44 3025 = (s17 3025) := (f46 3025 (by decide))
      have b56 : 0 ≤ (s44 3025) ∧ (s44 3025) ≤ 31 := hS44 3025
      have hsz := mi_shlx (x := x16) (k := k_) (by omega) (by omega)
      have hor := mi_or_nn (x := mi_shl x16 k_) (y := r45) (by omega) (by omega)
      refine tt_k 2 (S' := (104, [some (.inr (.inl 30)), some (.inl k_), some (.inl l_), some (.inl (s1 3053)), some (.inl x16)], [.inl (mi_or (mi_shl x16 k_) r45)], n, D, s44, p, c)) rfl ?_
      have e57 := mi_shl_bd x16 k_
      have e58 := mi_or_bd (mi_shl x16 k_) r45
      exact tt_rti rfl rfl ⟨s44, (mi_or (mi_shl x16 k_) r45), rfl, rfl, hS44, (fr_tr (fr_tr (fr_tr fr_rf f2 (by decide)) f19 (by decide)) f46 (by decide)), by omega, by show s 3049 ≤ (s44 3049); omega, by show s 3050 ≠ 0 → (s44 3050) ≠ 0; omega, by show s 3049 ≤ 32768 → (s44 3049) ≤ 32768; omega⟩
  · show tt Zi d 167 (66, [some (.inr (.inl 30)), some (.inl k_), some (.inl l_), some (.inl (s1 3053)), some (.inl x16)], [], n, D, s17, p, c) _
    refine tt_k 1 (S' := (67, [some (.inr (.inl 30)), some (.inl k_), some (.inl l_), some (.inl (s1 3053)), some (.inl x16)], [.inl 0], n, D, s17, p, c)) rfl ?_
    exact tt_rti rfl rfl ⟨s17, 0, rfl, rfl, hS17, (fr_tr (fr_tr fr_rf f2 (by decide)) f19 (by decide)), by omega, by show s 3049 ≤ (s17 3049); omega, by show s 3050 ≠ 0 → (s17 3050) ≠ 0; omega, by show s 3049 ≤ 32768 → (s17 3049) ≤ 32768; omega⟩
