/-! the reference's reader of bits and bytes -/
set_option maxRecDepth 100000 in
set_option maxHeartbeats 4000000 in
theorem k_ready {Zi : Nat → Option (Nat × (Nat → Int))} {d n : Nat} {D : Nat → Nat × Nat} {s : Nat → Int} {p : Nat → Nat} {c : Nat → Nat → Int} (hd : 1 ≤ d) (hS : bS s) (hC : bC D c)  : tt Zi d 165 (0, [some (.inr (.inl 30)), none], [], n, D, s, p, c) (fun R H => ∃ (s' : Nat → Int), R = .inl none ∧ H = (n, D, s', p, c) ∧ bS s' ∧ fr s s' [3049, 3050, 3051, 3052, 3053, 3054] ∧ (s 3049 ≤ s' 3049) ∧ (s' 3050 = 0 → 1 ≤ s' 3054) ∧ (s 3050 ≠ 0 → s' 3050 ≠ 0)) := by
  refine tt_k 2 (S' := (4, [some (.inr (.inl 30)), none], [.inl (s 3054)], n, D, s, p, c)) rfl ?_
  have b1 : 0 ≤ (s 3054) ∧ (s 3054) ≤ 8 := hS 3054
  refine tz_gt (x := (s 3054)) rfl rfl (by omega) (fun h2 => ?_) (fun h2 => ?_)
  · show tt Zi d 165 (14, [some (.inr (.inl 30)), none], [], n, D, s, p, c) _
    exact tt_rtv rfl rfl ⟨s, rfl, rfl, hS, fr_rf, by show s 3049 ≤ (s 3049); omega, by show (s 3050) = 0 → 1 ≤ (s 3054); omega, by show s 3050 ≠ 0 → (s 3050) ≠ 0; omega⟩
  · show tt Zi d 165 (7, [some (.inr (.inl 30)), none], [], n, D, s, p, c) _
    refine tt_k 2 (S' := (11, [some (.inr (.inl 30)), none], [.inl (s 3050)], n, D, s, p, c)) rfl ?_
    have b3 : 0 ≤ (s 3050) ∧ (s 3050) ≤ 8 := hS 3050
    refine tz_le (x := (s 3050)) rfl rfl (by omega) (fun h4 => ?_) (fun h4 => ?_)
    · show tt Zi d 165 (15, [some (.inr (.inl 30)), none], [], n, D, s, p, c) _
      refine tt_k 3 (S' := (22, [some (.inr (.inl 30)), none], [.inl 255, .inl (s 3052)], n, D, s, p, c)) rfl ?_
      have b5 : 0 ≤ (s 3052) ∧ (s 3052) ≤ 255 := hS 3052
      refine tb_ne (x := (s 3052)) (y := 255) rfl rfl (by omega) (fun h6 => ?_) (fun h6 => ?_)
      · show tt Zi d 165 (29, [some (.inr (.inl 30)), none], [], n, D, s, p, c) _
        refine tt_k 6 (S' := (39, [some (.inr (.inl 30)), some (.inl 0)], [.inl (s 3014), .inl (s 3049)], n, D, s, p, c)) rfl ?_
        have b7 : 0 ≤ (s 3049) ∧ (s 3049) ≤ 32769 := hS 3049
        have b8 : 0 ≤ (s 3014) ∧ (s 3014) ≤ 32768 := hS 3014
        refine tb_lt (x := (s 3049)) (y := (s 3014)) rfl rfl (by omega) (fun h9 => ?_) (fun h9 => ?_)
        · show tt Zi d 165 (52, [some (.inr (.inl 30)), some (.inl 0)], [], n, D, s, p, c) _
          refine tt_k 9 (S' := (69, [some (.inr (.inl 30)), some (.inl 0)], [.inl (s 3049), .inr (.inl 34), .inr (.inl 30)], n, D, (us s 3053 (s 3049)), p, c)) rfl ?_
          refine tt_bldv (i := (s 3049)) (v := (c 34 ((s 3049)).toNat)) rfl rfl (by omega) rfl ?_
          show tt Zi d 165 (70, [some (.inr (.inl 30)), some (.inl 0)], [.inl ((c 34 ((s 3049)).toNat)), .inr (.inl 30)], n, D, (us s 3053 (s 3049)), p, c) _
          have b10 : -128 ≤ (c 34 ((s 3049)).toNat) ∧ (c 34 ((s 3049)).toNat) ≤ 127 := hC 34 _
          refine tt_k 12 (S' := (94, [some (.inr (.inl 30)), some (.inl 0)], [.inl 255, .inl ((mi_and (c 34 ((s 3049)).toNat) 255))], n, D, (us (us (us s 3053 (s 3049)) 3052 ((mi_and (c 34 ((s 3049)).toNat) 255))) 3049 ((s 3049) + 1)), p, c)) rfl ?_
          have e11 := mi_and255 ((c 34 ((s 3049)).toNat))
          refine tb_ne (x := (mi_and (c 34 ((s 3049)).toNat) 255)) (y := 255) rfl rfl (by omega) (fun h12 => ?_) (fun h12 => ?_)
          · show tt Zi d 165 (148, [some (.inr (.inl 30)), some (.inl 0)], [], n, D, (us (us (us s 3053 (s 3049)) 3052 ((mi_and (c 34 ((s 3049)).toNat) 255))) 3049 ((s 3049) + 1)), p, c) _
            refine tt_k 2 (S' := (150, [some (.inr (.inl 30)), some (.inl 0)], [.inl 0, .inr (.inl 30)], n, D, (us (us (us s 3053 (s 3049)) 3052 ((mi_and (c 34 ((s 3049)).toNat) 255))) 3049 ((s 3049) + 1)), p, c)) rfl ?_
            have K13 : tt Zi d 165 (160, [some (.inr (.inl 30)), some (.inl 0)], [.inl 8, .inr (.inl 30)], n, D, (us (us (us s 3053 (s 3049)) 3052 ((mi_and (c 34 ((s 3049)).toNat) 255))) 3049 ((s 3049) + 1)), p, c) (fun R H => ∃ (s' : Nat → Int), R = .inl none ∧ H = (n, D, s', p, c) ∧ bS s' ∧ fr s s' [3049, 3050, 3051, 3052, 3053, 3054] ∧ (s 3049 ≤ s' 3049) ∧ (s' 3050 = 0 → 1 ≤ s' 3054) ∧ (s 3050 ≠ 0 → s' 3050 ≠ 0)) := by
              refine tt_k 1 (S' := (163, [some (.inr (.inl 30)), some (.inl 0)], [], n, D, (us (us (us (us s 3053 (s 3049)) 3052 ((mi_and (c 34 ((s 3049)).toNat) 255))) 3049 ((s 3049) + 1)) 3054 8), p, c)) rfl ?_
              exact tt_rtv rfl rfl ⟨(us (us (us (us s 3053 (s 3049)) 3052 ((mi_and (c 34 ((s 3049)).toNat) 255))) 3049 ((s 3049) + 1)) 3054 8), rfl, rfl, (bS_us (bS_us (bS_us (bS_us hS (show 0 ≤ (s 3049) ∧ (s 3049) ≤ 32768 by omega)) (show 0 ≤ (mi_and (c 34 ((s 3049)).toNat) 255) ∧ (mi_and (c 34 ((s 3049)).toNat) 255) ≤ 255 by omega)) (show 0 ≤ ((s 3049) + 1) ∧ ((s 3049) + 1) ≤ 32769 by omega)) (show 0 ≤ 8 ∧ 8 ≤ 8 by omega)), (fr_us (by decide) (fr_us (by decide) (fr_us (by decide) (fr_us (by decide) fr_rf)))), by show s 3049 ≤ ((s 3049) + 1); omega, by show (s 3050) = 0 → 1 ≤ 8; omega, by show s 3050 ≠ 0 → (s 3050) ≠ 0; omega⟩
            refine tz_eq (x := 0) rfl rfl (by omega) (fun h15 => ?_) (fun h15 => ?_)
            · show tt Zi d 165 (158, [some (.inr (.inl 30)), some (.inl 0)], [.inr (.inl 30)], n, D, (us (us (us s 3053 (s 3049)) 3052 ((mi_and (c 34 ((s 3049)).toNat) 255))) 3049 ((s 3049) + 1)), p, c) _
              refine tt_k 1 (S' := (160, [some (.inr (.inl 30)), some (.inl 0)], [.inl 8, .inr (.inl 30)], n, D, (us (us (us s 3053 (s 3049)) 3052 ((mi_and (c 34 ((s 3049)).toNat) 255))) 3049 ((s 3049) + 1)), p, c)) rfl ?_
              exact K13
            · exfalso; omega
          · show tt Zi d 165 (97, [some (.inr (.inl 30)), some (.inl 0)], [], n, D, (us (us (us s 3053 (s 3049)) 3052 ((mi_and (c 34 ((s 3049)).toNat) 255))) 3049 ((s 3049) + 1)), p, c) _
            refine tt_k 4 (S' := (105, [some (.inr (.inl 30)), some (.inl 0)], [.inl (s 3014), .inl ((s 3049) + 1)], n, D, (us (us (us s 3053 (s 3049)) 3052 ((mi_and (c 34 ((s 3049)).toNat) 255))) 3049 ((s 3049) + 1)), p, c)) rfl ?_
            refine tb_lt (x := ((s 3049) + 1)) (y := (s 3014)) rfl rfl (by omega) (fun h16 => ?_) (fun h16 => ?_)
            · show tt Zi d 165 (120, [some (.inr (.inl 30)), some (.inl 0)], [], n, D, (us (us (us s 3053 (s 3049)) 3052 ((mi_and (c 34 ((s 3049)).toNat) 255))) 3049 ((s 3049) + 1)), p, c) _
              refine tt_k 4 (S' := (128, [some (.inr (.inl 30)), some (.inl 0)], [.inl ((s 3049) + 1), .inr (.inl 34)], n, D, (us (us (us s 3053 (s 3049)) 3052 ((mi_and (c 34 ((s 3049)).toNat) 255))) 3049 ((s 3049) + 1)), p, c)) rfl ?_
              refine tt_bldv (i := ((s 3049) + 1)) (v := (c 34 (((s 3049) + 1)).toNat)) rfl rfl (by omega) rfl ?_
              show tt Zi d 165 (129, [some (.inr (.inl 30)), some (.inl 0)], [.inl ((c 34 (((s 3049) + 1)).toNat))], n, D, (us (us (us s 3053 (s 3049)) 3052 ((mi_and (c 34 ((s 3049)).toNat) 255))) 3049 ((s 3049) + 1)), p, c) _
              have b17 : -128 ≤ (c 34 (((s 3049) + 1)).toNat) ∧ (c 34 (((s 3049) + 1)).toNat) ≤ 127 := hC 34 _
              refine tt_k 3 (S' := (135, [some (.inr (.inl 30)), some (.inl 0)], [.inl 127, .inl ((mi_and (c 34 (((s 3049) + 1)).toNat) 255))], n, D, (us (us (us s 3053 (s 3049)) 3052 ((mi_and (c 34 ((s 3049)).toNat) 255))) 3049 ((s 3049) + 1)), p, c)) rfl ?_
              have e18 := mi_and255 ((c 34 (((s 3049) + 1)).toNat))
              refine tb_le (x := (mi_and (c 34 (((s 3049) + 1)).toNat) 255)) (y := 127) rfl rfl (by omega) (fun h19 => ?_) (fun h19 => ?_)
              · show tt Zi d 165 (148, [some (.inr (.inl 30)), some (.inl 0)], [], n, D, (us (us (us s 3053 (s 3049)) 3052 ((mi_and (c 34 ((s 3049)).toNat) 255))) 3049 ((s 3049) + 1)), p, c) _
                refine tt_k 2 (S' := (150, [some (.inr (.inl 30)), some (.inl 0)], [.inl 0, .inr (.inl 30)], n, D, (us (us (us s 3053 (s 3049)) 3052 ((mi_and (c 34 ((s 3049)).toNat) 255))) 3049 ((s 3049) + 1)), p, c)) rfl ?_
                have K20 : tt Zi d 165 (160, [some (.inr (.inl 30)), some (.inl 0)], [.inl 8, .inr (.inl 30)], n, D, (us (us (us s 3053 (s 3049)) 3052 ((mi_and (c 34 ((s 3049)).toNat) 255))) 3049 ((s 3049) + 1)), p, c) (fun R H => ∃ (s' : Nat → Int), R = .inl none ∧ H = (n, D, s', p, c) ∧ bS s' ∧ fr s s' [3049, 3050, 3051, 3052, 3053, 3054] ∧ (s 3049 ≤ s' 3049) ∧ (s' 3050 = 0 → 1 ≤ s' 3054) ∧ (s 3050 ≠ 0 → s' 3050 ≠ 0)) := by
                  refine tt_k 1 (S' := (163, [some (.inr (.inl 30)), some (.inl 0)], [], n, D, (us (us (us (us s 3053 (s 3049)) 3052 ((mi_and (c 34 ((s 3049)).toNat) 255))) 3049 ((s 3049) + 1)) 3054 8), p, c)) rfl ?_
                  exact tt_rtv rfl rfl ⟨(us (us (us (us s 3053 (s 3049)) 3052 ((mi_and (c 34 ((s 3049)).toNat) 255))) 3049 ((s 3049) + 1)) 3054 8), rfl, rfl, (bS_us (bS_us (bS_us (bS_us hS (show 0 ≤ (s 3049) ∧ (s 3049) ≤ 32768 by omega)) (show 0 ≤ (mi_and (c 34 ((s 3049)).toNat) 255) ∧ (mi_and (c 34 ((s 3049)).toNat) 255) ≤ 255 by omega)) (show 0 ≤ ((s 3049) + 1) ∧ ((s 3049) + 1) ≤ 32769 by omega)) (show 0 ≤ 8 ∧ 8 ≤ 8 by omega)), (fr_us (by decide) (fr_us (by decide) (fr_us (by decide) (fr_us (by decide) fr_rf)))), by show s 3049 ≤ ((s 3049) + 1); omega, by show (s 3050) = 0 → 1 ≤ 8; omega, by show s 3050 ≠ 0 → (s 3050) ≠ 0; omega⟩
                refine tz_eq (x := 0) rfl rfl (by omega) (fun h22 => ?_) (fun h22 => ?_)
                · show tt Zi d 165 (158, [some (.inr (.inl 30)), some (.inl 0)], [.inr (.inl 30)], n, D, (us (us (us s 3053 (s 3049)) 3052 ((mi_and (c 34 ((s 3049)).toNat) 255))) 3049 ((s 3049) + 1)), p, c) _
                  refine tt_k 1 (S' := (160, [some (.inr (.inl 30)), some (.inl 0)], [.inl 8, .inr (.inl 30)], n, D, (us (us (us s 3053 (s 3049)) 3052 ((mi_and (c 34 ((s 3049)).toNat) 255))) 3049 ((s 3049) + 1)), p, c)) rfl ?_
                  exact K20
                · exfalso; omega
              · show tt Zi d 165 (138, [some (.inr (.inl 30)), some (.inl 0)], [], n, D, (us (us (us s 3053 (s 3049)) 3052 ((mi_and (c 34 ((s 3049)).toNat) 255))) 3049 ((s 3049) + 1)), p, c) _
                refine tt_k 4 (S' := (145, [some (.inr (.inl 30)), some (.inl 0)], [.inl (s 3049), .inl 7, .inr (.inl 30)], n, D, (us (us (us s 3053 (s 3049)) 3052 ((mi_and (c 34 ((s 3049)).toNat) 255))) 3049 ((s 3049) + 1)), p, c)) rfl ?_
                refine tt_cl (by omega) rfl (k_fail (Zi := Zi) (D := D) (s := (us (us (us s 3053 (s 3049)) 3052 ((mi_and (c 34 ((s 3049)).toNat) 255))) 3049 ((s 3049) + 1))) (p := p) (c := c) (by omega) (bS_us (bS_us (bS_us hS (show 0 ≤ (s 3049) ∧ (s 3049) ≤ 32768 by omega)) (show 0 ≤ (mi_and (c 34 ((s 3049)).toNat) 255) ∧ (mi_and (c 34 ((s 3049)).toNat) 255) ≤ 255 by omega)) (show 0 ≤ ((s 3049) + 1) ∧ ((s 3049) + 1) ≤ 32769 by omega)) hC 7 (s 3049) (by omega) (by omega)) ?_
                rintro _ _ ⟨s23, rfl, rfl, hS23, f24, k25, k26⟩
                show tt Zi d 165 (148, [some (.inr (.inl 30)), some (.inl 0)], [], n, D, s23, p, c) _
                have k25 : ((s 3050) = 0 → (s23 3050) = 7 ∧ (s23 3051) = (s 3049)) := k25
                have k26 : ((s 3050) ≠ 0 → (s23 3050) = (s 3050) ∧ (s23 3051) = (s 3051)) := k26
                have b27 : 0 ≤ (s23 3050) ∧ (s23 3050) ≤ 8 := hS23 3050
                have b28 : -1 ≤ (s23 3051) ∧ (s23 3051) ≤ 32769 := hS23 3051
                have e29 : s23 3049 = ((s 3049) + 1) := (f24 3049 (by decide))
                have b30 : 0 ≤ (s23 3049) ∧ (s23 3049) ≤ 32769 := hS23 3049
                have e31 : s23 3014 = (s 3014) := (f24 3014 (by decide))
                have b32 : 0 ≤ (s23 3014) ∧ (s23 3014) ≤ 32768 := hS23 3014
                have e33 : s23 3053 = (s 3049) := (f24 3053 (by decide))
                have b34 : 0 ≤ (s23 3053) ∧ (s23 3053) ≤ 32768 := hS23 3053
                have e35 : s23 3052 = (mi_and (c 34 ((s 3049)).toNat) 255) := (f24 3052 (by decide))
                have b36 : 0 ≤ (s23 3052) ∧ (s23 3052) ≤ 255 := hS23 3052
                have e37 : s23 3054 = (s 3054) := (f24 3054 (by decide))
                have b38 : 0 ≤ (s23 3054) ∧ (s23 3054) ≤ 8 := hS23 3054
                refine tt_k 2 (S' := (150, [some (.inr (.inl 30)), some (.inl 0)], [.inl 0, .inr (.inl 30)], n, D, s23, p, c)) rfl ?_
                have K39 : tt Zi d 165 (160, [some (.inr (.inl 30)), some (.inl 0)], [.inl 8, .inr (.inl 30)], n, D, s23, p, c) (fun R H => ∃ (s' : Nat → Int), R = .inl none ∧ H = (n, D, s', p, c) ∧ bS s' ∧ fr s s' [3049, 3050, 3051, 3052, 3053, 3054] ∧ (s 3049 ≤ s' 3049) ∧ (s' 3050 = 0 → 1 ≤ s' 3054) ∧ (s 3050 ≠ 0 → s' 3050 ≠ 0)) := by
                  refine tt_k 1 (S' := (163, [some (.inr (.inl 30)), some (.inl 0)], [], n, D, (us s23 3054 8), p, c)) rfl ?_
                  exact tt_rtv rfl rfl ⟨(us s23 3054 8), rfl, rfl, (bS_us hS23 (show 0 ≤ 8 ∧ 8 ≤ 8 by omega)), (fr_us (by decide) (fr_tr (fr_us (by decide) (fr_us (by decide) (fr_us (by decide) fr_rf))) f24 (by decide))), by show s 3049 ≤ (s23 3049); omega, by show (s23 3050) = 0 → 1 ≤ 8; omega, by show s 3050 ≠ 0 → (s23 3050) ≠ 0; omega⟩
                refine tz_eq (x := 0) rfl rfl (by omega) (fun h41 => ?_) (fun h41 => ?_)
                · show tt Zi d 165 (158, [some (.inr (.inl 30)), some (.inl 0)], [.inr (.inl 30)], n, D, s23, p, c) _
                  refine tt_k 1 (S' := (160, [some (.inr (.inl 30)), some (.inl 0)], [.inl 8, .inr (.inl 30)], n, D, s23, p, c)) rfl ?_
                  exact K39
                · exfalso; omega
            · show tt Zi d 165 (108, [some (.inr (.inl 30)), some (.inl 0)], [], n, D, (us (us (us s 3053 (s 3049)) 3052 ((mi_and (c 34 ((s 3049)).toNat) 255))) 3049 ((s 3049) + 1)), p, c) _
              refine tt_k 4 (S' := (114, [some (.inr (.inl 30)), some (.inl 0)], [.inl (s 3014), .inl 1, .inr (.inl 30)], n, D, (us (us (us s 3053 (s 3049)) 3052 ((mi_and (c 34 ((s 3049)).toNat) 255))) 3049 ((s 3049) + 1)), p, c)) rfl ?_
              refine tt_cl (by omega) rfl (k_fail (Zi := Zi) (D := D) (s := (us (us (us s 3053 (s 3049)) 3052 ((mi_and (c 34 ((s 3049)).toNat) 255))) 3049 ((s 3049) + 1))) (p := p) (c := c) (by omega) (bS_us (bS_us (bS_us hS (show 0 ≤ (s 3049) ∧ (s 3049) ≤ 32768 by omega)) (show 0 ≤ (mi_and (c 34 ((s 3049)).toNat) 255) ∧ (mi_and (c 34 ((s 3049)).toNat) 255) ≤ 255 by omega)) (show 0 ≤ ((s 3049) + 1) ∧ ((s 3049) + 1) ≤ 32769 by omega)) hC 1 (s 3014) (by omega) (by omega)) ?_
              rintro _ _ ⟨s42, rfl, rfl, hS42, f43, k44, k45⟩
              show tt Zi d 165 (117, [some (.inr (.inl 30)), some (.inl 0)], [], n, D, s42, p, c) _
              have k44 : ((s 3050) = 0 → (s42 3050) = 1 ∧ (s42 3051) = (s 3014)) := k44
              have k45 : ((s 3050) ≠ 0 → (s42 3050) = (s 3050) ∧ (s42 3051) = (s 3051)) := k45
              have b46 : 0 ≤ (s42 3050) ∧ (s42 3050) ≤ 8 := hS42 3050
              have b47 : -1 ≤ (s42 3051) ∧ (s42 3051) ≤ 32769 := hS42 3051
              have e48 : s42 3049 = ((s 3049) + 1) := (f43 3049 (by decide))
              have b49 : 0 ≤ (s42 3049) ∧ (s42 3049) ≤ 32769 := hS42 3049
              have e50 : s42 3014 = (s 3014) := (f43 3014 (by decide))
              have b51 : 0 ≤ (s42 3014) ∧ (s42 3014) ≤ 32768 := hS42 3014
              have e52 : s42 3053 = (s 3049) := (f43 3053 (by decide))
              have b53 : 0 ≤ (s42 3053) ∧ (s42 3053) ≤ 32768 := hS42 3053
              have e54 : s42 3052 = (mi_and (c 34 ((s 3049)).toNat) 255) := (f43 3052 (by decide))
              have b55 : 0 ≤ (s42 3052) ∧ (s42 3052) ≤ 255 := hS42 3052
              have e56 : s42 3054 = (s 3054) := (f43 3054 (by decide))
              have b57 : 0 ≤ (s42 3054) ∧ (s42 3054) ≤ 8 := hS42 3054
              refine tt_k 3 (S' := (150, [some (.inr (.inl 30)), some (.inl 0)], [.inl 0, .inr (.inl 30)], n, D, s42, p, c)) rfl ?_
              have K58 : tt Zi d 165 (160, [some (.inr (.inl 30)), some (.inl 0)], [.inl 8, .inr (.inl 30)], n, D, s42, p, c) (fun R H => ∃ (s' : Nat → Int), R = .inl none ∧ H = (n, D, s', p, c) ∧ bS s' ∧ fr s s' [3049, 3050, 3051, 3052, 3053, 3054] ∧ (s 3049 ≤ s' 3049) ∧ (s' 3050 = 0 → 1 ≤ s' 3054) ∧ (s 3050 ≠ 0 → s' 3050 ≠ 0)) := by
                refine tt_k 1 (S' := (163, [some (.inr (.inl 30)), some (.inl 0)], [], n, D, (us s42 3054 8), p, c)) rfl ?_
                exact tt_rtv rfl rfl ⟨(us s42 3054 8), rfl, rfl, (bS_us hS42 (show 0 ≤ 8 ∧ 8 ≤ 8 by omega)), (fr_us (by decide) (fr_tr (fr_us (by decide) (fr_us (by decide) (fr_us (by decide) fr_rf))) f43 (by decide))), by show s 3049 ≤ (s42 3049); omega, by show (s42 3050) = 0 → 1 ≤ 8; omega, by show s 3050 ≠ 0 → (s42 3050) ≠ 0; omega⟩
              refine tz_eq (x := 0) rfl rfl (by omega) (fun h60 => ?_) (fun h60 => ?_)
              · show tt Zi d 165 (158, [some (.inr (.inl 30)), some (.inl 0)], [.inr (.inl 30)], n, D, s42, p, c) _
                refine tt_k 1 (S' := (160, [some (.inr (.inl 30)), some (.inl 0)], [.inl 8, .inr (.inl 30)], n, D, s42, p, c)) rfl ?_
                exact K58
              · exfalso; omega
        · show tt Zi d 165 (42, [some (.inr (.inl 30)), some (.inl 0)], [], n, D, s, p, c) _
          refine tt_k 4 (S' := (48, [some (.inr (.inl 30)), some (.inl 0)], [.inl (s 3014), .inl 1, .inr (.inl 30)], n, D, s, p, c)) rfl ?_
          refine tt_cl (by omega) rfl (k_fail (Zi := Zi) (D := D) (s := s) (p := p) (c := c) (by omega) hS hC 1 (s 3014) (by omega) (by omega)) ?_
          rintro _ _ ⟨s61, rfl, rfl, hS61, f62, k63, k64⟩
          show tt Zi d 165 (51, [some (.inr (.inl 30)), some (.inl 0)], [], n, D, s61, p, c) _
          have k63 : ((s 3050) = 0 → (s61 3050) = 1 ∧ (s61 3051) = (s 3014)) := k63
          have k64 : ((s 3050) ≠ 0 → (s61 3050) = (s 3050) ∧ (s61 3051) = (s 3051)) := k64
          have b65 : 0 ≤ (s61 3050) ∧ (s61 3050) ≤ 8 := hS61 3050
          have b66 : -1 ≤ (s61 3051) ∧ (s61 3051) ≤ 32769 := hS61 3051
          have e67 : s61 3049 = (s 3049) := (f62 3049 (by decide))
          have b68 : 0 ≤ (s61 3049) ∧ (s61 3049) ≤ 32769 := hS61 3049
          have e69 : s61 3014 = (s 3014) := (f62 3014 (by decide))
          have b70 : 0 ≤ (s61 3014) ∧ (s61 3014) ≤ 32768 := hS61 3014
          have e71 : s61 3053 = (s 3053) := (f62 3053 (by decide))
          have b72 : 0 ≤ (s61 3053) ∧ (s61 3053) ≤ 32768 := hS61 3053
          have b73 : 0 ≤ (s 3053) ∧ (s 3053) ≤ 32768 := hS 3053
          have e74 : s61 3052 = (s 3052) := (f62 3052 (by decide))
          have b75 : 0 ≤ (s61 3052) ∧ (s61 3052) ≤ 255 := hS61 3052
          have e76 : s61 3054 = (s 3054) := (f62 3054 (by decide))
          have b77 : 0 ≤ (s61 3054) ∧ (s61 3054) ≤ 8 := hS61 3054
          exact tt_rtv rfl rfl ⟨s61, rfl, rfl, hS61, (fr_tr fr_rf f62 (by decide)), by show s 3049 ≤ (s61 3049); omega, by show (s61 3050) = 0 → 1 ≤ (s61 3054); omega, by show s 3050 ≠ 0 → (s61 3050) ≠ 0; omega⟩
      · show tt Zi d 165 (25, [some (.inr (.inl 30)), none], [], n, D, s, p, c) _
        refine tt_k 7 (S' := (39, [some (.inr (.inl 30)), some (.inl 1)], [.inl (s 3014), .inl (s 3049)], n, D, s, p, c)) rfl ?_
        have b78 : 0 ≤ (s 3049) ∧ (s 3049) ≤ 32769 := hS 3049
        have b79 : 0 ≤ (s 3014) ∧ (s 3014) ≤ 32768 := hS 3014
        refine tb_lt (x := (s 3049)) (y := (s 3014)) rfl rfl (by omega) (fun h80 => ?_) (fun h80 => ?_)
        · show tt Zi d 165 (52, [some (.inr (.inl 30)), some (.inl 1)], [], n, D, s, p, c) _
          refine tt_k 9 (S' := (69, [some (.inr (.inl 30)), some (.inl 1)], [.inl (s 3049), .inr (.inl 34), .inr (.inl 30)], n, D, (us s 3053 (s 3049)), p, c)) rfl ?_
          refine tt_bldv (i := (s 3049)) (v := (c 34 ((s 3049)).toNat)) rfl rfl (by omega) rfl ?_
          show tt Zi d 165 (70, [some (.inr (.inl 30)), some (.inl 1)], [.inl ((c 34 ((s 3049)).toNat)), .inr (.inl 30)], n, D, (us s 3053 (s 3049)), p, c) _
          have b81 : -128 ≤ (c 34 ((s 3049)).toNat) ∧ (c 34 ((s 3049)).toNat) ≤ 127 := hC 34 _
          refine tt_k 12 (S' := (94, [some (.inr (.inl 30)), some (.inl 1)], [.inl 255, .inl ((mi_and (c 34 ((s 3049)).toNat) 255))], n, D, (us (us (us s 3053 (s 3049)) 3052 ((mi_and (c 34 ((s 3049)).toNat) 255))) 3049 ((s 3049) + 1)), p, c)) rfl ?_
          have e82 := mi_and255 ((c 34 ((s 3049)).toNat))
          refine tb_ne (x := (mi_and (c 34 ((s 3049)).toNat) 255)) (y := 255) rfl rfl (by omega) (fun h83 => ?_) (fun h83 => ?_)
          · show tt Zi d 165 (148, [some (.inr (.inl 30)), some (.inl 1)], [], n, D, (us (us (us s 3053 (s 3049)) 3052 ((mi_and (c 34 ((s 3049)).toNat) 255))) 3049 ((s 3049) + 1)), p, c) _
            refine tt_k 2 (S' := (150, [some (.inr (.inl 30)), some (.inl 1)], [.inl 1, .inr (.inl 30)], n, D, (us (us (us s 3053 (s 3049)) 3052 ((mi_and (c 34 ((s 3049)).toNat) 255))) 3049 ((s 3049) + 1)), p, c)) rfl ?_
            have K84 : tt Zi d 165 (160, [some (.inr (.inl 30)), some (.inl 1)], [.inl 7, .inr (.inl 30)], n, D, (us (us (us s 3053 (s 3049)) 3052 ((mi_and (c 34 ((s 3049)).toNat) 255))) 3049 ((s 3049) + 1)), p, c) (fun R H => ∃ (s' : Nat → Int), R = .inl none ∧ H = (n, D, s', p, c) ∧ bS s' ∧ fr s s' [3049, 3050, 3051, 3052, 3053, 3054] ∧ (s 3049 ≤ s' 3049) ∧ (s' 3050 = 0 → 1 ≤ s' 3054) ∧ (s 3050 ≠ 0 → s' 3050 ≠ 0)) := by
              refine tt_k 1 (S' := (163, [some (.inr (.inl 30)), some (.inl 1)], [], n, D, (us (us (us (us s 3053 (s 3049)) 3052 ((mi_and (c 34 ((s 3049)).toNat) 255))) 3049 ((s 3049) + 1)) 3054 7), p, c)) rfl ?_
              exact tt_rtv rfl rfl ⟨(us (us (us (us s 3053 (s 3049)) 3052 ((mi_and (c 34 ((s 3049)).toNat) 255))) 3049 ((s 3049) + 1)) 3054 7), rfl, rfl, (bS_us (bS_us (bS_us (bS_us hS (show 0 ≤ (s 3049) ∧ (s 3049) ≤ 32768 by omega)) (show 0 ≤ (mi_and (c 34 ((s 3049)).toNat) 255) ∧ (mi_and (c 34 ((s 3049)).toNat) 255) ≤ 255 by omega)) (show 0 ≤ ((s 3049) + 1) ∧ ((s 3049) + 1) ≤ 32769 by omega)) (show 0 ≤ 7 ∧ 7 ≤ 8 by omega)), (fr_us (by decide) (fr_us (by decide) (fr_us (by decide) (fr_us (by decide) fr_rf)))), by show s 3049 ≤ ((s 3049) + 1); omega, by show (s 3050) = 0 → 1 ≤ 7; omega, by show s 3050 ≠ 0 → (s 3050) ≠ 0; omega⟩
            refine tz_eq (x := 1) rfl rfl (by omega) (fun h86 => ?_) (fun h86 => ?_)
            · exfalso; omega
            · show tt Zi d 165 (153, [some (.inr (.inl 30)), some (.inl 1)], [.inr (.inl 30)], n, D, (us (us (us s 3053 (s 3049)) 3052 ((mi_and (c 34 ((s 3049)).toNat) 255))) 3049 ((s 3049) + 1)), p, c) _
              refine tt_k 2 (S' := (160, [some (.inr (.inl 30)), some (.inl 1)], [.inl 7, .inr (.inl 30)], n, D, (us (us (us s 3053 (s 3049)) 3052 ((mi_and (c 34 ((s 3049)).toNat) 255))) 3049 ((s 3049) + 1)), p, c)) rfl ?_
              exact K84
          · show tt Zi d 165 (97, [some (.inr (.inl 30)), some (.inl 1)], [], n, D, (us (us (us s 3053 (s 3049)) 3052 ((mi_and (c 34 ((s 3049)).toNat) 255))) 3049 ((s 3049) + 1)), p, c) _
            refine tt_k 4 (S' := (105, [some (.inr (.inl 30)), some (.inl 1)], [.inl (s 3014), .inl ((s 3049) + 1)], n, D, (us (us (us s 3053 (s 3049)) 3052 ((mi_and (c 34 ((s 3049)).toNat) 255))) 3049 ((s 3049) + 1)), p, c)) rfl ?_
            refine tb_lt (x := ((s 3049) + 1)) (y := (s 3014)) rfl rfl (by omega) (fun h87 => ?_) (fun h87 => ?_)
            · show tt Zi d 165 (120, [some (.inr (.inl 30)), some (.inl 1)], [], n, D, (us (us (us s 3053 (s 3049)) 3052 ((mi_and (c 34 ((s 3049)).toNat) 255))) 3049 ((s 3049) + 1)), p, c) _
              refine tt_k 4 (S' := (128, [some (.inr (.inl 30)), some (.inl 1)], [.inl ((s 3049) + 1), .inr (.inl 34)], n, D, (us (us (us s 3053 (s 3049)) 3052 ((mi_and (c 34 ((s 3049)).toNat) 255))) 3049 ((s 3049) + 1)), p, c)) rfl ?_
              refine tt_bldv (i := ((s 3049) + 1)) (v := (c 34 (((s 3049) + 1)).toNat)) rfl rfl (by omega) rfl ?_
              show tt Zi d 165 (129, [some (.inr (.inl 30)), some (.inl 1)], [.inl ((c 34 (((s 3049) + 1)).toNat))], n, D, (us (us (us s 3053 (s 3049)) 3052 ((mi_and (c 34 ((s 3049)).toNat) 255))) 3049 ((s 3049) + 1)), p, c) _
              have b88 : -128 ≤ (c 34 (((s 3049) + 1)).toNat) ∧ (c 34 (((s 3049) + 1)).toNat) ≤ 127 := hC 34 _
              refine tt_k 3 (S' := (135, [some (.inr (.inl 30)), some (.inl 1)], [.inl 127, .inl ((mi_and (c 34 (((s 3049) + 1)).toNat) 255))], n, D, (us (us (us s 3053 (s 3049)) 3052 ((mi_and (c 34 ((s 3049)).toNat) 255))) 3049 ((s 3049) + 1)), p, c)) rfl ?_
              have e89 := mi_and255 ((c 34 (((s 3049) + 1)).toNat))
              refine tb_le (x := (mi_and (c 34 (((s 3049) + 1)).toNat) 255)) (y := 127) rfl rfl (by omega) (fun h90 => ?_) (fun h90 => ?_)
              · show tt Zi d 165 (148, [some (.inr (.inl 30)), some (.inl 1)], [], n, D, (us (us (us s 3053 (s 3049)) 3052 ((mi_and (c 34 ((s 3049)).toNat) 255))) 3049 ((s 3049) + 1)), p, c) _
                refine tt_k 2 (S' := (150, [some (.inr (.inl 30)), some (.inl 1)], [.inl 1, .inr (.inl 30)], n, D, (us (us (us s 3053 (s 3049)) 3052 ((mi_and (c 34 ((s 3049)).toNat) 255))) 3049 ((s 3049) + 1)), p, c)) rfl ?_
                have K91 : tt Zi d 165 (160, [some (.inr (.inl 30)), some (.inl 1)], [.inl 7, .inr (.inl 30)], n, D, (us (us (us s 3053 (s 3049)) 3052 ((mi_and (c 34 ((s 3049)).toNat) 255))) 3049 ((s 3049) + 1)), p, c) (fun R H => ∃ (s' : Nat → Int), R = .inl none ∧ H = (n, D, s', p, c) ∧ bS s' ∧ fr s s' [3049, 3050, 3051, 3052, 3053, 3054] ∧ (s 3049 ≤ s' 3049) ∧ (s' 3050 = 0 → 1 ≤ s' 3054) ∧ (s 3050 ≠ 0 → s' 3050 ≠ 0)) := by
                  refine tt_k 1 (S' := (163, [some (.inr (.inl 30)), some (.inl 1)], [], n, D, (us (us (us (us s 3053 (s 3049)) 3052 ((mi_and (c 34 ((s 3049)).toNat) 255))) 3049 ((s 3049) + 1)) 3054 7), p, c)) rfl ?_
                  exact tt_rtv rfl rfl ⟨(us (us (us (us s 3053 (s 3049)) 3052 ((mi_and (c 34 ((s 3049)).toNat) 255))) 3049 ((s 3049) + 1)) 3054 7), rfl, rfl, (bS_us (bS_us (bS_us (bS_us hS (show 0 ≤ (s 3049) ∧ (s 3049) ≤ 32768 by omega)) (show 0 ≤ (mi_and (c 34 ((s 3049)).toNat) 255) ∧ (mi_and (c 34 ((s 3049)).toNat) 255) ≤ 255 by omega)) (show 0 ≤ ((s 3049) + 1) ∧ ((s 3049) + 1) ≤ 32769 by omega)) (show 0 ≤ 7 ∧ 7 ≤ 8 by omega)), (fr_us (by decide) (fr_us (by decide) (fr_us (by decide) (fr_us (by decide) fr_rf)))), by show s 3049 ≤ ((s 3049) + 1); omega, by show (s 3050) = 0 → 1 ≤ 7; omega, by show s 3050 ≠ 0 → (s 3050) ≠ 0; omega⟩
                refine tz_eq (x := 1) rfl rfl (by omega) (fun h93 => ?_) (fun h93 => ?_)
                · exfalso; omega
                · show tt Zi d 165 (153, [some (.inr (.inl 30)), some (.inl 1)], [.inr (.inl 30)], n, D, (us (us (us s 3053 (s 3049)) 3052 ((mi_and (c 34 ((s 3049)).toNat) 255))) 3049 ((s 3049) + 1)), p, c) _
                  refine tt_k 2 (S' := (160, [some (.inr (.inl 30)), some (.inl 1)], [.inl 7, .inr (.inl 30)], n, D, (us (us (us s 3053 (s 3049)) 3052 ((mi_and (c 34 ((s 3049)).toNat) 255))) 3049 ((s 3049) + 1)), p, c)) rfl ?_
                  exact K91
              · show tt Zi d 165 (138, [some (.inr (.inl 30)), some (.inl 1)], [], n, D, (us (us (us s 3053 (s 3049)) 3052 ((mi_and (c 34 ((s 3049)).toNat) 255))) 3049 ((s 3049) + 1)), p, c) _
                refine tt_k 4 (S' := (145, [some (.inr (.inl 30)), some (.inl 1)], [.inl (s 3049), .inl 7, .inr (.inl 30)], n, D, (us (us (us s 3053 (s 3049)) 3052 ((mi_and (c 34 ((s 3049)).toNat) 255))) 3049 ((s 3049) + 1)), p, c)) rfl ?_
                refine tt_cl (by omega) rfl (k_fail (Zi := Zi) (D := D) (s := (us (us (us s 3053 (s 3049)) 3052 ((mi_and (c 34 ((s 3049)).toNat) 255))) 3049 ((s 3049) + 1))) (p := p) (c := c) (by omega) (bS_us (bS_us (bS_us hS (show 0 ≤ (s 3049) ∧ (s 3049) ≤ 32768 by omega)) (show 0 ≤ (mi_and (c 34 ((s 3049)).toNat) 255) ∧ (mi_and (c 34 ((s 3049)).toNat) 255) ≤ 255 by omega)) (show 0 ≤ ((s 3049) + 1) ∧ ((s 3049) + 1) ≤ 32769 by omega)) hC 7 (s 3049) (by omega) (by omega)) ?_
                rintro _ _ ⟨s94, rfl, rfl, hS94, f95, k96, k97⟩
                show tt Zi d 165 (148, [some (.inr (.inl 30)), some (.inl 1)], [], n, D, s94, p, c) _
                have k96 : ((s 3050) = 0 → (s94 3050) = 7 ∧ (s94 3051) = (s 3049)) := k96
                have k97 : ((s 3050) ≠ 0 → (s94 3050) = (s 3050) ∧ (s94 3051) = (s 3051)) := k97
                have b98 : 0 ≤ (s94 3050) ∧ (s94 3050) ≤ 8 := hS94 3050
                have b99 : -1 ≤ (s94 3051) ∧ (s94 3051) ≤ 32769 := hS94 3051
                have e100 : s94 3049 = ((s 3049) + 1) := (f95 3049 (by decide))
                have b101 : 0 ≤ (s94 3049) ∧ (s94 3049) ≤ 32769 := hS94 3049
                have e102 : s94 3014 = (s 3014) := (f95 3014 (by decide))
                have b103 : 0 ≤ (s94 3014) ∧ (s94 3014) ≤ 32768 := hS94 3014
                have e104 : s94 3053 = (s 3049) := (f95 3053 (by decide))
                have b105 : 0 ≤ (s94 3053) ∧ (s94 3053) ≤ 32768 := hS94 3053
                have e106 : s94 3052 = (mi_and (c 34 ((s 3049)).toNat) 255) := (f95 3052 (by decide))
                have b107 : 0 ≤ (s94 3052) ∧ (s94 3052) ≤ 255 := hS94 3052
                have e108 : s94 3054 = (s 3054) := (f95 3054 (by decide))
                have b109 : 0 ≤ (s94 3054) ∧ (s94 3054) ≤ 8 := hS94 3054
                refine tt_k 2 (S' := (150, [some (.inr (.inl 30)), some (.inl 1)], [.inl 1, .inr (.inl 30)], n, D, s94, p, c)) rfl ?_
                have K110 : tt Zi d 165 (160, [some (.inr (.inl 30)), some (.inl 1)], [.inl 7, .inr (.inl 30)], n, D, s94, p, c) (fun R H => ∃ (s' : Nat → Int), R = .inl none ∧ H = (n, D, s', p, c) ∧ bS s' ∧ fr s s' [3049, 3050, 3051, 3052, 3053, 3054] ∧ (s 3049 ≤ s' 3049) ∧ (s' 3050 = 0 → 1 ≤ s' 3054) ∧ (s 3050 ≠ 0 → s' 3050 ≠ 0)) := by
                  refine tt_k 1 (S' := (163, [some (.inr (.inl 30)), some (.inl 1)], [], n, D, (us s94 3054 7), p, c)) rfl ?_
                  exact tt_rtv rfl rfl ⟨(us s94 3054 7), rfl, rfl, (bS_us hS94 (show 0 ≤ 7 ∧ 7 ≤ 8 by omega)), (fr_us (by decide) (fr_tr (fr_us (by decide) (fr_us (by decide) (fr_us (by decide) fr_rf))) f95 (by decide))), by show s 3049 ≤ (s94 3049); omega, by show (s94 3050) = 0 → 1 ≤ 7; omega, by show s 3050 ≠ 0 → (s94 3050) ≠ 0; omega⟩
                refine tz_eq (x := 1) rfl rfl (by omega) (fun h112 => ?_) (fun h112 => ?_)
                · exfalso; omega
                · show tt Zi d 165 (153, [some (.inr (.inl 30)), some (.inl 1)], [.inr (.inl 30)], n, D, s94, p, c) _
                  refine tt_k 2 (S' := (160, [some (.inr (.inl 30)), some (.inl 1)], [.inl 7, .inr (.inl 30)], n, D, s94, p, c)) rfl ?_
                  exact K110
            · show tt Zi d 165 (108, [some (.inr (.inl 30)), some (.inl 1)], [], n, D, (us (us (us s 3053 (s 3049)) 3052 ((mi_and (c 34 ((s 3049)).toNat) 255))) 3049 ((s 3049) + 1)), p, c) _
              refine tt_k 4 (S' := (114, [some (.inr (.inl 30)), some (.inl 1)], [.inl (s 3014), .inl 1, .inr (.inl 30)], n, D, (us (us (us s 3053 (s 3049)) 3052 ((mi_and (c 34 ((s 3049)).toNat) 255))) 3049 ((s 3049) + 1)), p, c)) rfl ?_
              refine tt_cl (by omega) rfl (k_fail (Zi := Zi) (D := D) (s := (us (us (us s 3053 (s 3049)) 3052 ((mi_and (c 34 ((s 3049)).toNat) 255))) 3049 ((s 3049) + 1))) (p := p) (c := c) (by omega) (bS_us (bS_us (bS_us hS (show 0 ≤ (s 3049) ∧ (s 3049) ≤ 32768 by omega)) (show 0 ≤ (mi_and (c 34 ((s 3049)).toNat) 255) ∧ (mi_and (c 34 ((s 3049)).toNat) 255) ≤ 255 by omega)) (show 0 ≤ ((s 3049) + 1) ∧ ((s 3049) + 1) ≤ 32769 by omega)) hC 1 (s 3014) (by omega) (by omega)) ?_
              rintro _ _ ⟨s113, rfl, rfl, hS113, f114, k115, k116⟩
              show tt Zi d 165 (117, [some (.inr (.inl 30)), some (.inl 1)], [], n, D, s113, p, c) _
              have k115 : ((s 3050) = 0 → (s113 3050) = 1 ∧ (s113 3051) = (s 3014)) := k115
              have k116 : ((s 3050) ≠ 0 → (s113 3050) = (s 3050) ∧ (s113 3051) = (s 3051)) := k116
              have b117 : 0 ≤ (s113 3050) ∧ (s113 3050) ≤ 8 := hS113 3050
              have b118 : -1 ≤ (s113 3051) ∧ (s113 3051) ≤ 32769 := hS113 3051
              have e119 : s113 3049 = ((s 3049) + 1) := (f114 3049 (by decide))
              have b120 : 0 ≤ (s113 3049) ∧ (s113 3049) ≤ 32769 := hS113 3049
              have e121 : s113 3014 = (s 3014) := (f114 3014 (by decide))
              have b122 : 0 ≤ (s113 3014) ∧ (s113 3014) ≤ 32768 := hS113 3014
              have e123 : s113 3053 = (s 3049) := (f114 3053 (by decide))
              have b124 : 0 ≤ (s113 3053) ∧ (s113 3053) ≤ 32768 := hS113 3053
              have e125 : s113 3052 = (mi_and (c 34 ((s 3049)).toNat) 255) := (f114 3052 (by decide))
              have b126 : 0 ≤ (s113 3052) ∧ (s113 3052) ≤ 255 := hS113 3052
              have e127 : s113 3054 = (s 3054) := (f114 3054 (by decide))
              have b128 : 0 ≤ (s113 3054) ∧ (s113 3054) ≤ 8 := hS113 3054
              refine tt_k 3 (S' := (150, [some (.inr (.inl 30)), some (.inl 1)], [.inl 1, .inr (.inl 30)], n, D, s113, p, c)) rfl ?_
              have K129 : tt Zi d 165 (160, [some (.inr (.inl 30)), some (.inl 1)], [.inl 7, .inr (.inl 30)], n, D, s113, p, c) (fun R H => ∃ (s' : Nat → Int), R = .inl none ∧ H = (n, D, s', p, c) ∧ bS s' ∧ fr s s' [3049, 3050, 3051, 3052, 3053, 3054] ∧ (s 3049 ≤ s' 3049) ∧ (s' 3050 = 0 → 1 ≤ s' 3054) ∧ (s 3050 ≠ 0 → s' 3050 ≠ 0)) := by
                refine tt_k 1 (S' := (163, [some (.inr (.inl 30)), some (.inl 1)], [], n, D, (us s113 3054 7), p, c)) rfl ?_
                exact tt_rtv rfl rfl ⟨(us s113 3054 7), rfl, rfl, (bS_us hS113 (show 0 ≤ 7 ∧ 7 ≤ 8 by omega)), (fr_us (by decide) (fr_tr (fr_us (by decide) (fr_us (by decide) (fr_us (by decide) fr_rf))) f114 (by decide))), by show s 3049 ≤ (s113 3049); omega, by show (s113 3050) = 0 → 1 ≤ 7; omega, by show s 3050 ≠ 0 → (s113 3050) ≠ 0; omega⟩
              refine tz_eq (x := 1) rfl rfl (by omega) (fun h131 => ?_) (fun h131 => ?_)
              · exfalso; omega
              · show tt Zi d 165 (153, [some (.inr (.inl 30)), some (.inl 1)], [.inr (.inl 30)], n, D, s113, p, c) _
                refine tt_k 2 (S' := (160, [some (.inr (.inl 30)), some (.inl 1)], [.inl 7, .inr (.inl 30)], n, D, s113, p, c)) rfl ?_
                exact K129
        · show tt Zi d 165 (42, [some (.inr (.inl 30)), some (.inl 1)], [], n, D, s, p, c) _
          refine tt_k 4 (S' := (48, [some (.inr (.inl 30)), some (.inl 1)], [.inl (s 3014), .inl 1, .inr (.inl 30)], n, D, s, p, c)) rfl ?_
          refine tt_cl (by omega) rfl (k_fail (Zi := Zi) (D := D) (s := s) (p := p) (c := c) (by omega) hS hC 1 (s 3014) (by omega) (by omega)) ?_
          rintro _ _ ⟨s132, rfl, rfl, hS132, f133, k134, k135⟩
          show tt Zi d 165 (51, [some (.inr (.inl 30)), some (.inl 1)], [], n, D, s132, p, c) _
          have k134 : ((s 3050) = 0 → (s132 3050) = 1 ∧ (s132 3051) = (s 3014)) := k134
          have k135 : ((s 3050) ≠ 0 → (s132 3050) = (s 3050) ∧ (s132 3051) = (s 3051)) := k135
          have b136 : 0 ≤ (s132 3050) ∧ (s132 3050) ≤ 8 := hS132 3050
          have b137 : -1 ≤ (s132 3051) ∧ (s132 3051) ≤ 32769 := hS132 3051
          have e138 : s132 3049 = (s 3049) := (f133 3049 (by decide))
          have b139 : 0 ≤ (s132 3049) ∧ (s132 3049) ≤ 32769 := hS132 3049
          have e140 : s132 3014 = (s 3014) := (f133 3014 (by decide))
          have b141 : 0 ≤ (s132 3014) ∧ (s132 3014) ≤ 32768 := hS132 3014
          have e142 : s132 3053 = (s 3053) := (f133 3053 (by decide))
          have b143 : 0 ≤ (s132 3053) ∧ (s132 3053) ≤ 32768 := hS132 3053
          have b144 : 0 ≤ (s 3053) ∧ (s 3053) ≤ 32768 := hS 3053
          have e145 : s132 3052 = (s 3052) := (f133 3052 (by decide))
          have b146 : 0 ≤ (s132 3052) ∧ (s132 3052) ≤ 255 := hS132 3052
          have e147 : s132 3054 = (s 3054) := (f133 3054 (by decide))
          have b148 : 0 ≤ (s132 3054) ∧ (s132 3054) ≤ 8 := hS132 3054
          exact tt_rtv rfl rfl ⟨s132, rfl, rfl, hS132, (fr_tr fr_rf f133 (by decide)), by show s 3049 ≤ (s132 3049); omega, by show (s132 3050) = 0 → 1 ≤ (s132 3054); omega, by show s 3050 ≠ 0 → (s132 3050) ≠ 0; omega⟩
    · show tt Zi d 165 (14, [some (.inr (.inl 30)), none], [], n, D, s, p, c) _
      exact tt_rtv rfl rfl ⟨s, rfl, rfl, hS, fr_rf, by show s 3049 ≤ (s 3049); omega, by show (s 3050) = 0 → 1 ≤ (s 3054); omega, by show s 3050 ≠ 0 → (s 3050) ≠ 0; omega⟩
set_option maxRecDepth 100000 in
set_option maxHeartbeats 4000000 in
theorem k_bit {Zi : Nat → Option (Nat × (Nat → Int))} {d n : Nat} {D : Nat → Nat × Nat} {s : Nat → Int} {p : Nat → Nat} {c : Nat → Nat → Int} (hd : 2 ≤ d) (hS : bS s) (hC : bC D c)  : tt Zi d 168 (0, [some (.inr (.inl 30))], [], n, D, s, p, c) (fun R H => ∃ (s' : Nat → Int) (r : Int), R = .inl (some (.inl r)) ∧ H = (n, D, s', p, c) ∧ bS s' ∧ fr s s' [3049, 3050, 3051, 3052, 3053, 3054] ∧ (0 ≤ r ∧ r ≤ 1) ∧ (s 3049 ≤ s' 3049) ∧ (s 3050 ≠ 0 → s' 3050 ≠ 0)) := by
  refine tt_k 1 (S' := (1, [some (.inr (.inl 30))], [.inr (.inl 30)], n, D, s, p, c)) rfl ?_
  refine tt_cl (by omega) rfl (k_ready (Zi := Zi) (D := D) (s := s) (p := p) (c := c) (by omega) hS hC ) ?_
  rintro _ _ ⟨s1, rfl, rfl, hS1, f2, k3, k4, k5⟩
  show tt Zi d 168 (4, [some (.inr (.inl 30))], [], n, D, s1, p, c) _
  have k3 : (s 3049) ≤ (s1 3049) := k3
  have k4 : (s1 3050) = 0 → 1 ≤ (s1 3054) := k4
  have k5 : (s 3050) ≠ 0 → (s1 3050) ≠ 0 := k5
  have b6 : 0 ≤ (s1 3049) ∧ (s1 3049) ≤ 32769 := hS1 3049
  have b7 : 0 ≤ (s1 3050) ∧ (s1 3050) ≤ 8 := hS1 3050
  have b8 : 0 ≤ (s1 3054) ∧ (s1 3054) ≤ 8 := hS1 3054
  refine tt_k 2 (S' := (8, [some (.inr (.inl 30))], [.inl (s1 3050)], n, D, s1, p, c)) rfl ?_
  refine tz_le (x := (s1 3050)) rfl rfl (by omega) (fun h9 => ?_) (fun h9 => ?_)
  · show tt Zi d 168 (13, [some (.inr (.inl 30))], [], n, D, s1, p, c) _
    refine tt_k 13 (S' := (34, [some (.inr (.inl 30))], [.inl ((mi_and (mi_shr (s1 3052) ((s1 3054) - 1)) 1))], n, D, (us s1 3054 ((s1 3054) - 1)), p, c)) rfl ?_
    have b10 : 0 ≤ (s1 3052) ∧ (s1 3052) ≤ 255 := hS1 3052
    have e11 := mi_shr_bd (s1 3052) ((s1 3054) - 1)
    have e12 := mi_and1 ((mi_shr (s1 3052) ((s1 3054) - 1)))
    exact tt_rti rfl rfl ⟨(us s1 3054 ((s1 3054) - 1)), (mi_and (mi_shr (s1 3052) ((s1 3054) - 1)) 1), rfl, rfl, (bS_us hS1 (show 0 ≤ ((s1 3054) - 1) ∧ ((s1 3054) - 1) ≤ 8 by omega)), (fr_us (by decide) (fr_tr fr_rf f2 (by decide))), by omega, by show s 3049 ≤ (s1 3049); omega, by show s 3050 ≠ 0 → (s1 3050) ≠ 0; omega⟩
  · show tt Zi d 168 (11, [some (.inr (.inl 30))], [], n, D, s1, p, c) _
    refine tt_k 1 (S' := (12, [some (.inr (.inl 30))], [.inl 0], n, D, s1, p, c)) rfl ?_
    exact tt_rti rfl rfl ⟨s1, 0, rfl, rfl, hS1, (fr_tr fr_rf f2 (by decide)), by omega, by show s 3049 ≤ (s1 3049); omega, by show s 3050 ≠ 0 → (s1 3050) ≠ 0; omega⟩
set_option maxRecDepth 100000 in
set_option maxHeartbeats 4000000 in
theorem k_bits_L4 {Zi : Nat → Option (Nat × (Nat → Int))} {d n : Nat} {D : Nat → Nat × Nat} {s : Nat → Int} {p : Nat → Nat} {c : Nat → Nat → Int}  {Q : mi_Rs → mi_H → Prop} (hd : 3 ≤ d) (hS : bS s) (hC : bC D c) (n_ : Int) (b_n_ : 0 ≤ n_ ∧ n_ ≤ 30)
  (hK : ∀ (v : Int) (k : Int) (s0 : Nat → Int) (b_v : 0 ≤ v ∧ v ≤ 1073741823) (b_k : 0 ≤ k ∧ k ≤ 30) (hS0 : bS s0) (hF0 : fr s s0 [3049, 3050, 3051, 3052, 3053, 3054]) (i0 : k ≤ n_) (i1 : v < 2 ^ k.toNat) (i2 : s 3049 ≤ s0 3049) (i3 : s 3050 ≠ 0 → s0 3050 ≠ 0), True → tt Zi d 169 (31, [some (.inr (.inl 30)), some (.inl n_), some (.inl v), some (.inl k)], [], n, D, s0, p, c) Q) :
  ∀ (m : Nat) (v : Int) (k : Int) (s0 : Nat → Int) (b_v : 0 ≤ v ∧ v ≤ 1073741823) (b_k : 0 ≤ k ∧ k ≤ 30) (hS0 : bS s0) (hF0 : fr s s0 [3049, 3050, 3051, 3052, 3053, 3054]) (i0 : k ≤ n_) (i1 : v < 2 ^ k.toNat) (i2 : s 3049 ≤ s0 3049) (i3 : s 3050 ≠ 0 → s0 3050 ≠ 0), (n_ - k).toNat < m → tt Zi d 169 (4, [some (.inr (.inl 30)), some (.inl n_), some (.inl v), some (.inl k)], [], n, D, s0, p, c) Q := by
  intro m
  induction m with
  | zero => intro v k s0 b_v b_k hS0 hF0 i0 i1 i2 i3 hm; exact absurd hm (by omega)
  | succ m ih =>
    intro v k s0 b_v b_k hS0 hF0 i0 i1 i2 i3 hm
    refine tt_k 2 (S' := (6, [some (.inr (.inl 30)), some (.inl n_), some (.inl v), some (.inl k)], [.inl n_, .inl k], n, D, s0, p, c)) rfl ?_
    refine tb_ge (x := k) (y := n_) rfl rfl (by omega) (fun h1 => ?_) (fun h1 => ?_)
    · show tt Zi d 169 (31, [some (.inr (.inl 30)), some (.inl n_), some (.inl v), some (.inl k)], [], n, D, s0, p, c) _
      exact hK v k s0 (by omega) (by omega) hS0 hF0 i0 i1 i2 i3 trivial
    · show tt Zi d 169 (9, [some (.inr (.inl 30)), some (.inl n_), some (.inl v), some (.inl k)], [], n, D, s0, p, c) _
      refine tt_k 2 (S' := (13, [some (.inr (.inl 30)), some (.inl n_), some (.inl v), some (.inl k)], [.inl (s0 3050)], n, D, s0, p, c)) rfl ?_
      have b2 : 0 ≤ (s0 3050) ∧ (s0 3050) ≤ 8 := hS0 3050
      refine tz_ne (x := (s0 3050)) rfl rfl (by omega) (fun h3 => ?_) (fun h3 => ?_)
      · show tt Zi d 169 (31, [some (.inr (.inl 30)), some (.inl n_), some (.inl v), some (.inl k)], [], n, D, s0, p, c) _
        exact hK v k s0 (by omega) (by omega) hS0 hF0 i0 i1 i2 i3 trivial
      · show tt Zi d 169 (16, [some (.inr (.inl 30)), some (.inl n_), some (.inl v), some (.inl k)], [], n, D, s0, p, c) _
        refine tt_k 4 (S' := (20, [some (.inr (.inl 30)), some (.inl n_), some (.inl v), some (.inl k)], [.inr (.inl 30), .inl (2 * v)], n, D, s0, p, c)) rfl ?_
        refine tt_cl (by omega) rfl (k_bit (Zi := Zi) (D := D) (s := s0) (p := p) (c := c) (by omega) hS0 hC ) ?_
        rintro _ _ ⟨s4, r5, rfl, rfl, hS4, f6, b7, k8, k9⟩
        show tt Zi d 169 (23, [some (.inr (.inl 30)), some (.inl n_), some (.inl v), some (.inl k)], [.inl r5, .inl (2 * v)], n, D, s4, p, c) _
        have k8 : (s0 3049) ≤ (s4 3049) := k8
        have k9 : (s0 3050) ≠ 0 → (s4 3050) ≠ 0 := k9
        have b10 : 0 ≤ (s4 3049) ∧ (s4 3049) ≤ 32769 := hS4 3049
        have b11 : 0 ≤ (s4 3050) ∧ (s4 3050) ≤ 8 := hS4 3050
        refine tt_k 4 (S' := (4, [some (.inr (.inl 30)), some (.inl n_), some (.inl ((2 * v) + r5)), some (.inl (k + 1))], [], n, D, s4, p, c)) rfl ?_
        have hp1 := pw_s (k := k) (by omega)
        have hp2 := mi_pw (a := (k + 1).toNat) (b := 30) (by omega)
        have hp3 : (2 : Int) ^ 30 = 1073741824 := by decide
        exact ih ((2 * v) + r5) (k + 1) s4 (by omega) (by omega) hS4 (fr_tr hF0 f6 (by decide)) (show (k + 1) ≤ n_ by omega) (show ((2 * v) + r5) < 2 ^ (k + 1).toNat by omega) (show s 3049 ≤ (s4 3049) by omega) (show s 3050 ≠ 0 → (s4 3050) ≠ 0 by omega) (show (n_ - (k + 1)).toNat < m by omega)
set_option maxRecDepth 100000 in
set_option maxHeartbeats 4000000 in
theorem k_bits {Zi : Nat → Option (Nat × (Nat → Int))} {d n : Nat} {D : Nat → Nat × Nat} {s : Nat → Int} {p : Nat → Nat} {c : Nat → Nat → Int} (hd : 3 ≤ d) (hS : bS s) (hC : bC D c) (n_ : Int) (b_n_ : 0 ≤ n_ ∧ n_ ≤ 30) : tt Zi d 169 (0, [some (.inr (.inl 30)), some (.inl n_), none, none], [], n, D, s, p, c) (fun R H => ∃ (s' : Nat → Int) (r : Int), R = .inl (some (.inl r)) ∧ H = (n, D, s', p, c) ∧ bS s' ∧ fr s s' [3049, 3050, 3051, 3052, 3053, 3054] ∧ (0 ≤ r ∧ r ≤ 1073741823) ∧ (s 3049 ≤ s' 3049) ∧ (r < 2 ^ n_.toNat) ∧ (s 3050 ≠ 0 → s' 3050 ≠ 0)) := by
  refine tt_k 4 (S' := (4, [some (.inr (.inl 30)), some (.inl n_), some (.inl 0), some (.inl 0)], [], n, D, s, p, c)) rfl ?_
  refine k_bits_L4 (Zi := Zi) (D := D) (s := s) (p := p) (c := c) hd hS hC  n_ (by omega) ?_ _ 0 0 s (by omega) (by omega) hS fr_rf (show 0 ≤ n_ by omega) (by decide) (Int.le_refl _) (fun h => h) (Nat.lt_succ_self _)
  intro x1 x2 s3 b4 b5 hS3 f6 i7 i8 i9 i10 hx11
  show tt Zi d 169 (31, [some (.inr (.inl 30)), some (.inl n_), some (.inl x1), some (.inl x2)], [], n, D, s3, p, c) _
  have hp4 := mi_pw (a := (x2).toNat) (b := n_.toNat) (by omega)
  refine tt_k 1 (S' := (32, [some (.inr (.inl 30)), some (.inl n_), some (.inl x1), some (.inl x2)], [.inl x1], n, D, s3, p, c)) rfl ?_
  exact tt_rti rfl rfl ⟨s3, x1, rfl, rfl, hS3, (fr_tr fr_rf f6 (by decide)), by omega, by show s 3049 ≤ (s3 3049); omega, by show x1 < 2 ^ n_.toNat; omega, by show s 3050 ≠ 0 → (s3 3050) ≠ 0; omega⟩
set_option maxRecDepth 100000 in
set_option maxHeartbeats 4000000 in
theorem k_number_L12 {Zi : Nat → Option (Nat × (Nat → Int))} {d n : Nat} {D : Nat → Nat × Nat} {s : Nat → Int} {p : Nat → Nat} {c : Nat → Nat → Int}  {Q : mi_Rs → mi_H → Prop} (hd : 4 ≤ d) (hS : bS s) (hC : bC D c) (k_ : Int) (l_ : Int) (wh : Int) (b_k_ : 0 ≤ k_ ∧ k_ ≤ 16) (b_l_ : 1 ≤ l_ ∧ l_ ≤ 96) (b_wh : 0 ≤ wh ∧ wh ≤ 32768) (hq0 : 0 ≤ l_ - s 3025 - 1 ∧ l_ - s 3025 - 1 ≤ 64 ∧ s 3025 ≤ 16)
  (hK : ∀ (z : Int) (s0 : Nat → Int) (b_z : 0 ≤ z ∧ z ≤ 66) (hS0 : bS s0) (hF0 : fr s s0 [3049, 3050, 3051, 3052, 3053, 3054]) (i0 : z ≤ l_ - s 3025) (i1 : s0 3050 = 0 → z ≤ l_ - s 3025 - 1) (i2 : s 3049 ≤ s0 3049) (i3 : s 3050 ≠ 0 → s0 3050 ≠ 0), True → tt Zi d 167 (59, [some (.inr (.inl 30)), some (.inl k_), some (.inl l_), some (.inl wh), some (.inl z)], [], n, D, s0, p, c) Q) :
  ∀ (m : Nat) (z : Int) (s0 : Nat → Int) (b_z : 0 ≤ z ∧ z ≤ 66) (hS0 : bS s0) (hF0 : fr s s0 [3049, 3050, 3051, 3052, 3053, 3054]) (i0 : z ≤ l_ - s 3025) (i1 : s0 3050 = 0 → z ≤ l_ - s 3025 - 1) (i2 : s 3049 ≤ s0 3049) (i3 : s 3050 ≠ 0 → s0 3050 ≠ 0), (if s0 3050 = 0 then l_ - s 3025 - z + 1 else 0).toNat < m → tt Zi d 167 (12, [some (.inr (.inl 30)), some (.inl k_), some (.inl l_), some (.inl wh), some (.inl z)], [], n, D, s0, p, c) Q := by
  intro m
  induction m with
  | zero => intro z s0 b_z hS0 hF0 i0 i1 i2 i3 hm; exact absurd hm (by omega)
  | succ m ih =>
    intro z s0 b_z hS0 hF0 i0 i1 i2 i3 hm
    have e1 : s0 3025 = s 3025 := hF0 3025 (by decide)
    have b2 : 0 ≤ (s0 3025) ∧ (s0 3025) ≤ 31 := hS0 3025
    have b3 : 0 ≤ (s 3025) ∧ (s 3025) ≤ 31 := hS 3025
    refine tt_k 2 (S' := (16, [some (.inr (.inl 30)), some (.inl k_), some (.inl l_), some (.inl wh), some (.inl z)], [.inl (s0 3050)], n, D, s0, p, c)) rfl ?_
    have b4 : 0 ≤ (s0 3050) ∧ (s0 3050) ≤ 8 := hS0 3050
    refine tz_ne (x := (s0 3050)) rfl rfl (by omega) (fun h5 => ?_) (fun h5 => ?_)
    · show tt Zi d 167 (59, [some (.inr (.inl 30)), some (.inl k_), some (.inl l_), some (.inl wh), some (.inl z)], [], n, D, s0, p, c) _
      exact hK z s0 (by omega) hS0 hF0 (show z ≤ l_ - s 3025 by omega) (show (s0 3050) = 0 → z ≤ l_ - s 3025 - 1 by omega) (show s 3049 ≤ (s0 3049) by omega) (show s 3050 ≠ 0 → (s0 3050) ≠ 0 by omega) trivial
    · show tt Zi d 167 (19, [some (.inr (.inl 30)), some (.inl k_), some (.inl l_), some (.inl wh), some (.inl z)], [], n, D, s0, p, c) _
      refine tt_k 1 (S' := (20, [some (.inr (.inl 30)), some (.inl k_), some (.inl l_), some (.inl wh), some (.inl z)], [.inr (.inl 30)], n, D, s0, p, c)) rfl ?_
      refine tt_cl (by omega) rfl (k_bit (Zi := Zi) (D := D) (s := s0) (p := p) (c := c) (by omega) hS0 hC ) ?_
      rintro _ _ ⟨s6, r7, rfl, rfl, hS6, f8, b9, k10, k11⟩
      show tt Zi d 167 (23, [some (.inr (.inl 30)), some (.inl k_), some (.inl l_), some (.inl wh), some (.inl z)], [.inl r7], n, D, s6, p, c) _
      have k10 : (s0 3049) ≤ (s6 3049) := k10
      have k11 : (s0 3050) ≠ 0 → (s6 3050) ≠ 0 := k11
      have b12 : 0 ≤ (s6 3049) ∧ (s6 3049) ≤ 32769 := hS6 3049
      have b13 : 0 ≤ (s6 3050) ∧ (s6 3050) ≤ 8 := hS6 3050
      have e14 : s6 3025 = (s0 3025) := (f8 3025 (by decide))
      have b15 : 0 ≤ (s6 3025) ∧ (s6 3025) ≤ 31 := hS6 3025
      refine tz_ne (x := r7) rfl rfl (by omega) (fun h16 => ?_) (fun h16 => ?_)
      · show tt Zi d 167 (59, [some (.inr (.inl 30)), some (.inl k_), some (.inl l_), some (.inl wh), some (.inl z)], [], n, D, s6, p, c) _
        exact hK z s6 (by omega) hS6 (fr_tr hF0 f8 (by decide)) (show z ≤ l_ - s 3025 by omega) (show (s6 3050) = 0 → z ≤ l_ - s 3025 - 1 by omega) (show s 3049 ≤ (s6 3049) by omega) (show s 3050 ≠ 0 → (s6 3050) ≠ 0 by omega) trivial
      · show tt Zi d 167 (26, [some (.inr (.inl 30)), some (.inl k_), some (.inl l_), some (.inl wh), some (.inl z)], [], n, D, s6, p, c) _
        refine tt_k 3 (S' := (33, [some (.inr (.inl 30)), some (.inl k_), some (.inl l_), some (.inl wh), some (.inl (z + 1))], [.inl (s6 3050)], n, D, s6, p, c)) rfl ?_
        refine tz_ne (x := (s6 3050)) rfl rfl (by omega) (fun h17 => ?_) (fun h17 => ?_)
        · show tt Zi d 167 (12, [some (.inr (.inl 30)), some (.inl k_), some (.inl l_), some (.inl wh), some (.inl (z + 1))], [], n, D, s6, p, c) _
          exact ih (z + 1) s6 (by omega) hS6 (fr_tr hF0 f8 (by decide)) (show (z + 1) ≤ l_ - s 3025 by omega) (show (s6 3050) = 0 → (z + 1) ≤ l_ - s 3025 - 1 by omega) (show s 3049 ≤ (s6 3049) by omega) (show s 3050 ≠ 0 → (s6 3050) ≠ 0 by omega) (show (if (s6 3050) = 0 then l_ - s 3025 - (z + 1) + 1 else 0).toNat < m by omega)
        · show tt Zi d 167 (36, [some (.inr (.inl 30)), some (.inl k_), some (.inl l_), some (.inl wh), some (.inl (z + 1))], [], n, D, s6, p, c) _
          refine tt_k 7 (S' := (46, [some (.inr (.inl 30)), some (.inl k_), some (.inl l_), some (.inl wh), some (.inl (z + 1))], [.inl (((l_ - (s6 3025)) - 1)), .inl (z + 1)], n, D, s6, p, c)) rfl ?_
          refine tb_le (x := (z + 1)) (y := ((l_ - (s6 3025)) - 1)) rfl rfl (by omega) (fun h18 => ?_) (fun h18 => ?_)
          · show tt Zi d 167 (12, [some (.inr (.inl 30)), some (.inl k_), some (.inl l_), some (.inl wh), some (.inl (z + 1))], [], n, D, s6, p, c) _
            exact ih (z + 1) s6 (by omega) hS6 (fr_tr hF0 f8 (by decide)) (show (z + 1) ≤ l_ - s 3025 by omega) (show (s6 3050) = 0 → (z + 1) ≤ l_ - s 3025 - 1 by omega) (show s 3049 ≤ (s6 3049) by omega) (show s 3050 ≠ 0 → (s6 3050) ≠ 0 by omega) (show (if (s6 3050) = 0 then l_ - s 3025 - (z + 1) + 1 else 0).toNat < m by omega)
          · show tt Zi d 167 (49, [some (.inr (.inl 30)), some (.inl k_), some (.inl l_), some (.inl wh), some (.inl (z + 1))], [], n, D, s6, p, c) _
            refine tt_k 3 (S' := (53, [some (.inr (.inl 30)), some (.inl k_), some (.inl l_), some (.inl wh), some (.inl (z + 1))], [.inl wh, .inl 7, .inr (.inl 30)], n, D, s6, p, c)) rfl ?_
            refine tt_cl (by omega) rfl (k_fail (Zi := Zi) (D := D) (s := s6) (p := p) (c := c) (by omega) hS6 hC 7 wh (by omega) (by omega)) ?_
            rintro _ _ ⟨s19, rfl, rfl, hS19, f20, k21, k22⟩
            show tt Zi d 167 (56, [some (.inr (.inl 30)), some (.inl k_), some (.inl l_), some (.inl wh), some (.inl (z + 1))], [], n, D, s19, p, c) _
            have k21 : ((s6 3050) = 0 → (s19 3050) = 7 ∧ (s19 3051) = wh) := k21
            have k22 : ((s6 3050) ≠ 0 → (s19 3050) = (s6 3050) ∧ (s19 3051) = (s6 3051)) := k22
            have b23 : 0 ≤ (s19 3050) ∧ (s19 3050) ≤ 8 := hS19 3050
            have b24 : -1 ≤ (s19 3051) ∧ (s19 3051) ≤ 32769 := hS19 3051
            have e25 : s19 3025 = (s6 3025) := (f20 3025 (by decide))
            have b26 : 0 ≤ (s19 3025) ∧ (s19 3025) ≤ 31 := hS19 3025
            have e27 : s19 3049 = (s6 3049) := (f20 3049 (by decide))
            have b28 : 0 ≤ (s19 3049) ∧ (s19 3049) ≤ 32769 := hS19 3049
            refine tt_k 1 (S' := (12, [some (.inr (.inl 30)), some (.inl k_), some (.inl l_), some (.inl wh), some (.inl (z + 1))], [], n, D, s19, p, c)) rfl ?_
            exact ih (z + 1) s19 (by omega) hS19 (fr_tr (fr_tr hF0 f8 (by decide)) f20 (by decide)) (show (z + 1) ≤ l_ - s 3025 by omega) (show (s19 3050) = 0 → (z + 1) ≤ l_ - s 3025 - 1 by omega) (show s 3049 ≤ (s19 3049) by omega) (show s 3050 ≠ 0 → (s19 3050) ≠ 0 by omega) (show (if (s19 3050) = 0 then l_ - s 3025 - (z + 1) + 1 else 0).toNat < m by omega)
set_option maxRecDepth 100000 in
set_option maxHeartbeats 4000000 in
theorem k_number {Zi : Nat → Option (Nat × (Nat → Int))} {d n : Nat} {D : Nat → Nat × Nat} {s : Nat → Int} {p : Nat → Nat} {c : Nat → Nat → Int} (hd : 4 ≤ d) (hS : bS s) (hC : bC D c) (k_ : Int) (l_ : Int) (b_k_ : 0 ≤ k_ ∧ k_ ≤ 16) (b_l_ : 1 ≤ l_ ∧ l_ ≤ 96) (hp0 : 0 ≤ l_ - s 3025 - 1 ∧ l_ - s 3025 - 1 ≤ 64 ∧ s 3025 ≤ 16) : tt Zi d 167 (0, [some (.inr (.inl 30)), some (.inl k_), some (.inl l_), none, none], [], n, D, s, p, c) (fun R H => ∃ (s' : Nat → Int) (r : Int), R = .inl (some (.inl r)) ∧ H = (n, D, s', p, c) ∧ bS s' ∧ fr s s' [3049, 3050, 3051, 3052, 3053, 3054] ∧ (0 ≤ r ∧ r ≤ 1073741823) ∧ (s 3049 ≤ s' 3049) ∧ (s 3050 ≠ 0 → s' 3050 ≠ 0)) := by
  refine tt_k 1 (S' := (1, [some (.inr (.inl 30)), some (.inl k_), some (.inl l_), none, none], [.inr (.inl 30)], n, D, s, p, c)) rfl ?_
  refine tt_cl (by omega) rfl (k_ready (Zi := Zi) (D := D) (s := s) (p := p) (c := c) (by omega) hS hC ) ?_
  rintro _ _ ⟨s1, rfl, rfl, hS1, f2, k3, k4, k5⟩
  show tt Zi d 167 (4, [some (.inr (.inl 30)), some (.inl k_), some (.inl l_), none, none], [], n, D, s1, p, c) _
  have k3 : (s 3049) ≤ (s1 3049) := k3
  have k4 : (s1 3050) = 0 → 1 ≤ (s1 3054) := k4
  have k5 : (s 3050) ≠ 0 → (s1 3050) ≠ 0 := k5
  have b6 : 0 ≤ (s1 3049) ∧ (s1 3049) ≤ 32769 := hS1 3049
  have b7 : 0 ≤ (s1 3050) ∧ (s1 3050) ≤ 8 := hS1 3050
  have b8 : 0 ≤ (s1 3054) ∧ (s1 3054) ≤ 8 := hS1 3054
  have e9 : s1 3025 = (s 3025) := (f2 3025 (by decide))
  have b10 : 0 ≤ (s1 3025) ∧ (s1 3025) ≤ 31 := hS1 3025
  have b11 : 0 ≤ (s 3025) ∧ (s 3025) ≤ 31 := hS 3025
  refine tt_k 5 (S' := (12, [some (.inr (.inl 30)), some (.inl k_), some (.inl l_), some (.inl (s1 3053)), some (.inl 0)], [], n, D, s1, p, c)) rfl ?_
  have b12 : 0 ≤ (s1 3053) ∧ (s1 3053) ≤ 32768 := hS1 3053
  refine k_number_L12 (Zi := Zi) (D := D) (s := s1) (p := p) (c := c) hd hS1 hC  k_ l_ (s1 3053) (by omega) (by omega) (by omega) (show 0 ≤ l_ - (s1 3025) - 1 ∧ l_ - (s1 3025) - 1 ≤ 64 ∧ (s1 3025) ≤ 16 by omega) ?_ _ 0 s1 (by omega) hS1 fr_rf (show 0 ≤ l_ - (s1 3025) by omega) (show (s1 3050) = 0 → 0 ≤ l_ - (s1 3025) - 1 by omega) (Int.le_refl _) (fun h => h) (Nat.lt_succ_self _)
  intro x13 s14 b15 hS14 f16 i17 i18 i19 i20 hx21
  show tt Zi d 167 (59, [some (.inr (.inl 30)), some (.inl k_), some (.inl l_), some (.inl (s1 3053)), some (.inl x13)], [], n, D, s14, p, c) _
  have e22 : s14 3025 = (s1 3025) := (f16 3025 (by decide))
  have b23 : 0 ≤ (s14 3025) ∧ (s14 3025) ≤ 31 := hS14 3025
  refine tt_k 2 (S' := (63, [some (.inr (.inl 30)), some (.inl k_), some (.inl l_), some (.inl (s1 3053)), some (.inl x13)], [.inl (s14 3050)], n, D, s14, p, c)) rfl ?_
  have b24 : 0 ≤ (s14 3050) ∧ (s14 3050) ≤ 8 := hS14 3050
  refine tz_le (x := (s14 3050)) rfl rfl (by omega) (fun h25 => ?_) (fun h25 => ?_)
  · show tt Zi d 167 (68, [some (.inr (.inl 30)), some (.inl k_), some (.inl l_), some (.inl (s1 3053)), some (.inl x13)], [], n, D, s14, p, c) _
    refine tt_k 7 (S' := (78, [some (.inr (.inl 30)), some (.inl k_), some (.inl l_), some (.inl (s1 3053)), some (.inl x13)], [.inl (((l_ - (s14 3025)) - 1)), .inl x13], n, D, s14, p, c)) rfl ?_
    refine tb_ge (x := x13) (y := ((l_ - (s14 3025)) - 1)) rfl rfl (by omega) (fun h26 => ?_) (fun h26 => ?_)
    · show tt Zi d 167 (94, [some (.inr (.inl 30)), some (.inl k_), some (.inl l_), some (.inl (s1 3053)), some (.inl x13)], [], n, D, s14, p, c) _
      refine tt_k 3 (S' := (99, [some (.inr (.inl 30)), some (.inl k_), some (.inl l_), some (.inl (s1 3053)), some (.inl x13)], [.inl (s14 3025), .inr (.inl 30)], n, D, s14, p, c)) rfl ?_
      refine tt_cl (by omega) rfl (k_bits (Zi := Zi) (D := D) (s := s14) (p := p) (c := c) (by omega) hS14 hC (s14 3025) (by omega)) ?_
      rintro _ _ ⟨s27, r28, rfl, rfl, hS27, f29, b30, k31, k32, k33⟩
      show tt Zi d 167 (102, [some (.inr (.inl 30)), some (.inl k_), some (.inl l_), some (.inl (s1 3053)), some (.inl x13)], [.inl r28], n, D, s27, p, c) _
      have k31 : (s14 3049) ≤ (s27 3049) := k31
      have k32 : r28 < 2 ^ (s14 3025).toNat := k32
      have k33 : (s14 3050) ≠ 0 → (s27 3050) ≠ 0 := k33
      have b34 : 0 ≤ (s27 3049) ∧ (s27 3049) ≤ 32769 := hS27 3049
      have b35 : 0 ≤ (s27 3050) ∧ (s27 3050) ≤ 8 := hS27 3050
      have e36 : s27 3025 = (s14 3025) := (f29 3025 (by decide))
      have b37 : 0 ≤ (s27 3025) ∧ (s27 3025) ≤ 31 := hS27 3025
      have hq16 := mi_pw (a := ((s14 3025)).toNat) (b := 16) (by omega)
      have hq17 : (2 : Int) ^ 16 = 65536 := by decide
      refine tt_k 2 (S' := (104, [some (.inr (.inl 30)), some (.inl k_), some (.inl l_), some (.inl (s1 3053)), some (.inl x13)], [.inl (r28 + 1)], n, D, s27, p, c)) rfl ?_
      exact tt_rti rfl rfl ⟨s27, (r28 + 1), rfl, rfl, hS27, (fr_tr (fr_tr (fr_tr fr_rf f2 (by decide)) f16 (by decide)) f29 (by decide)), by omega, by show s 3049 ≤ (s27 3049); omega, by show s 3050 ≠ 0 → (s27 3050) ≠ 0; omega⟩
    · show tt Zi d 167 (81, [some (.inr (.inl 30)), some (.inl k_), some (.inl l_), some (.inl (s1 3053)), some (.inl x13)], [], n, D, s14, p, c) _
      refine tt_k 5 (S' := (87, [some (.inr (.inl 30)), some (.inl k_), some (.inl l_), some (.inl (s1 3053)), some (.inl x13)], [.inl k_, .inr (.inl 30), .inl (mi_shl x13 k_)], n, D, s14, p, c)) rfl ?_
      refine tt_cl (by omega) rfl (k_bits (Zi := Zi) (D := D) (s := s14) (p := p) (c := c) (by omega) hS14 hC k_ (by omega)) ?_
      rintro _ _ ⟨s38, r39, rfl, rfl, hS38, f40, b41, k42, k43, k44⟩
      show tt Zi d 167 (90, [some (.inr (.inl 30)), some (.inl k_), some (.inl l_), some (.inl (s1 3053)), some (.inl x13)], [.inl r39, .inl (mi_shl x13 k_)], n, D, s38, p, c) _
      have k42 : (s14 3049) ≤ (s38 3049) := k42
      have k43 : r39 < 2 ^ k_.toNat := k43
      have k44 : (s14 3050) ≠ 0 → (s38 3050) ≠ 0 := k44
      have b45 : 0 ≤ (s38 3049) ∧ (s38 3049) ≤ 32769 := hS38 3049
      have b46 : 0 ≤ (s38 3050) ∧ (s38 3050) ≤ 8 := hS38 3050
      have e47 : s38 3025 = (s14 3025) := (f40 3025 (by decide))
      have b48 : 0 ≤ (s38 3025) ∧ (s38 3025) ≤ 31 := hS38 3025
      have hsz := mi_shlx (x := x13) (k := k_) (by omega) (by omega)
      have hor := mi_or_nn (x := mi_shl x13 k_) (y := r39) (by omega) (by omega)
      refine tt_k 2 (S' := (104, [some (.inr (.inl 30)), some (.inl k_), some (.inl l_), some (.inl (s1 3053)), some (.inl x13)], [.inl (mi_or (mi_shl x13 k_) r39)], n, D, s38, p, c)) rfl ?_
      have e49 := mi_shl_bd x13 k_
      have e50 := mi_or_bd (mi_shl x13 k_) r39
      exact tt_rti rfl rfl ⟨s38, (mi_or (mi_shl x13 k_) r39), rfl, rfl, hS38, (fr_tr (fr_tr (fr_tr fr_rf f2 (by decide)) f16 (by decide)) f40 (by decide)), by omega, by show s 3049 ≤ (s38 3049); omega, by show s 3050 ≠ 0 → (s38 3050) ≠ 0; omega⟩
  · show tt Zi d 167 (66, [some (.inr (.inl 30)), some (.inl k_), some (.inl l_), some (.inl (s1 3053)), some (.inl x13)], [], n, D, s14, p, c) _
    refine tt_k 1 (S' := (67, [some (.inr (.inl 30)), some (.inl k_), some (.inl l_), some (.inl (s1 3053)), some (.inl x13)], [.inl 0], n, D, s14, p, c)) rfl ?_
    exact tt_rti rfl rfl ⟨s14, 0, rfl, rfl, hS14, (fr_tr (fr_tr fr_rf f2 (by decide)) f16 (by decide)), by omega, by show s 3049 ≤ (s14 3049); omega, by show s 3050 ≠ 0 → (s14 3050) ≠ 0; omega⟩
set_option maxRecDepth 100000 in
set_option maxHeartbeats 4000000 in
theorem k_nextByte {Zi : Nat → Option (Nat × (Nat → Int))} {d n : Nat} {D : Nat → Nat × Nat} {s : Nat → Int} {p : Nat → Nat} {c : Nat → Nat → Int} (hd : 1 ≤ d) (hS : bS s) (hC : bC D c)  : tt Zi d 188 (0, [some (.inr (.inl 30)), none], [], n, D, s, p, c) (fun R H => ∃ (s' : Nat → Int) (r : Int), R = .inl (some (.inl r)) ∧ H = (n, D, s', p, c) ∧ bS s' ∧ fr s s' [3049, 3050, 3051] ∧ (0 ≤ r ∧ r ≤ 255) ∧ (s' 3050 = 0 → s' 3049 = s 3049 + 1 ∧ s' 3049 ≤ s 3014) ∧ (s 3049 ≤ s' 3049) ∧ (s 3050 ≠ 0 → s' 3050 ≠ 0)) := by
  refine tt_k 4 (S' := (8, [some (.inr (.inl 30)), none], [.inl (s 3014), .inl (s 3049)], n, D, s, p, c)) rfl ?_
  have b1 : 0 ≤ (s 3049) ∧ (s 3049) ≤ 32769 := hS 3049
  have b2 : 0 ≤ (s 3014) ∧ (s 3014) ≤ 32768 := hS 3014
  refine tb_lt (x := (s 3049)) (y := (s 3014)) rfl rfl (by omega) (fun h3 => ?_) (fun h3 => ?_)
  · show tt Zi d 188 (22, [some (.inr (.inl 30)), none], [], n, D, s, p, c) _
    refine tt_k 4 (S' := (30, [some (.inr (.inl 30)), none], [.inl (s 3049), .inr (.inl 34)], n, D, s, p, c)) rfl ?_
    refine tt_bldv (i := (s 3049)) (v := (c 34 ((s 3049)).toNat)) rfl rfl (by omega) rfl ?_
    show tt Zi d 188 (31, [some (.inr (.inl 30)), none], [.inl ((c 34 ((s 3049)).toNat))], n, D, s, p, c) _
    have b4 : -128 ≤ (c 34 ((s 3049)).toNat) ∧ (c 34 ((s 3049)).toNat) ≤ 127 := hC 34 _
    refine tt_k 10 (S' := (47, [some (.inr (.inl 30)), some (.inl ((mi_and (c 34 ((s 3049)).toNat) 255)))], [.inl ((mi_and (c 34 ((s 3049)).toNat) 255))], n, D, (us s 3049 ((s 3049) + 1)), p, c)) rfl ?_
    have e5 := mi_and255 ((c 34 ((s 3049)).toNat))
    exact tt_rti rfl rfl ⟨(us s 3049 ((s 3049) + 1)), (mi_and (c 34 ((s 3049)).toNat) 255), rfl, rfl, (bS_us hS (show 0 ≤ ((s 3049) + 1) ∧ ((s 3049) + 1) ≤ 32769 by omega)), (fr_us (by decide) fr_rf), by omega, by show (s 3050) = 0 → ((s 3049) + 1) = s 3049 + 1 ∧ ((s 3049) + 1) ≤ s 3014; omega, by show s 3049 ≤ ((s 3049) + 1); omega, by show s 3050 ≠ 0 → (s 3050) ≠ 0; omega⟩
  · show tt Zi d 188 (11, [some (.inr (.inl 30)), none], [], n, D, s, p, c) _
    refine tt_k 4 (S' := (17, [some (.inr (.inl 30)), none], [.inl (s 3014), .inl 1, .inr (.inl 30)], n, D, s, p, c)) rfl ?_
    refine tt_cl (by omega) rfl (k_fail (Zi := Zi) (D := D) (s := s) (p := p) (c := c) (by omega) hS hC 1 (s 3014) (by omega) (by omega)) ?_
    rintro _ _ ⟨s6, rfl, rfl, hS6, f7, k8, k9⟩
    show tt Zi d 188 (20, [some (.inr (.inl 30)), none], [], n, D, s6, p, c) _
    have k8 : ((s 3050) = 0 → (s6 3050) = 1 ∧ (s6 3051) = (s 3014)) := k8
    have k9 : ((s 3050) ≠ 0 → (s6 3050) = (s 3050) ∧ (s6 3051) = (s 3051)) := k9
    have b10 : 0 ≤ (s6 3050) ∧ (s6 3050) ≤ 8 := hS6 3050
    have b11 : -1 ≤ (s6 3051) ∧ (s6 3051) ≤ 32769 := hS6 3051
    have e12 : s6 3049 = (s 3049) := (f7 3049 (by decide))
    have b13 : 0 ≤ (s6 3049) ∧ (s6 3049) ≤ 32769 := hS6 3049
    have e14 : s6 3014 = (s 3014) := (f7 3014 (by decide))
    have b15 : 0 ≤ (s6 3014) ∧ (s6 3014) ≤ 32768 := hS6 3014
    refine tt_k 1 (S' := (21, [some (.inr (.inl 30)), none], [.inl 0], n, D, s6, p, c)) rfl ?_
    exact tt_rti rfl rfl ⟨s6, 0, rfl, rfl, hS6, (fr_tr fr_rf f7 (by decide)), by omega, by show (s6 3050) = 0 → (s6 3049) = s 3049 + 1 ∧ (s6 3049) ≤ s 3014; omega, by show s 3049 ≤ (s6 3049); omega, by show s 3050 ≠ 0 → (s6 3050) ≠ 0; omega⟩
