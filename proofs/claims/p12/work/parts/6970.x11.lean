/-! the reference's small calls, exactly -/
set_option maxRecDepth 100000 in
set_option maxHeartbeats 4000000 in
theorem k_measures3 {Zi : Nat → Option (Nat × (Nat → Int))} {d n : Nat} {D : Nat → Nat × Nat} {s : Nat → Int} {p : Nat → Nat} {c : Nat → Nat → Int} (hd : 1 ≤ d) (hS : bS s) (hC : bC D c) (a1 : Int) (a2 : Int) (a3 : Int) (a4 : Int) (a5 : Int) (b_a1 : -2147483648 ≤ a1 ∧ a1 ≤ 2147483647) (b_a2 : -2147483648 ≤ a2 ∧ a2 ≤ 2147483647) (b_a3 : -2147483648 ≤ a3 ∧ a3 ≤ 2147483647) (b_a4 : -2147483648 ≤ a4 ∧ a4 ≤ 2147483647) (b_a5 : -2147483648 ≤ a5 ∧ a5 ≤ 2147483647) : tt Zi d 142 (0, [some (.inr (.inl 30)), some (.inl a1), some (.inl a2), some (.inl a3), some (.inl a4), some (.inl a5), none], [], n, D, s, p, c) (fun R H => ∃ (s' : Nat → Int) (c' : Nat → Nat → Int), R = .inl none ∧ H = (n, D, s', p, c') ∧ bS s' ∧ bC D c' ∧ fr s s' [3000] ∧ frc c c' [32] ∧ (s' 3000 = if ((0 ≤ a1 ∧ a1 ≤ 65535) ∧ (0 ≤ a2 ∧ a2 ≤ 65535) ∧ (0 ≤ a3 ∧ a3 ≤ 65535) ∧ (0 ≤ a4 ∧ a4 ≤ 65535) ∧ (0 ≤ a5 ∧ a5 ≤ 65535) ∧ a1 ≤ mi_shl 1 (s 3004) - 1) then 0 else 1) ∧ (if ((0 ≤ a1 ∧ a1 ≤ 65535) ∧ (0 ≤ a2 ∧ a2 ≤ 65535) ∧ (0 ≤ a3 ∧ a3 ≤ 65535) ∧ (0 ≤ a4 ∧ a4 ≤ 65535) ∧ (0 ≤ a5 ∧ a5 ≤ 65535) ∧ a1 ≤ mi_shl 1 (s 3004) - 1) then (c' 32 0 = a1 ∧ c' 32 1 = a2 ∧ c' 32 2 = a3 ∧ c' 32 3 = a4 ∧ c' 32 4 = a5) else c' 32 = c 32)) := by
  have b1 : 2 ≤ (s 3004) ∧ (s 3004) ≤ 16 := hS 3004
  have e2 : 4 ≤ (mi_shl 1 (s 3004)) ∧ (mi_shl 1 (s 3004)) ≤ 65536 := mi_shl1b 2 16 (by omega) (by omega) (by decide)
  refine tt_k 3 (S' := (4, [some (.inr (.inl 30)), some (.inl a1), some (.inl a2), some (.inl a3), some (.inl a4), some (.inl a5), none], [.inl 65535, .inl 0, .inl a1], n, D, s, p, c)) rfl ?_
  refine tt_cl (by omega) rfl (k_isIn (Zi := Zi) (D := D) (s := s) (p := p) (c := c) (by omega) hS hC a1 0 65535 (by omega) (by omega) (by omega)) ?_
  rintro _ _ ⟨r3, rfl, rfl, b4, k5⟩
  show tt Zi d 142 (7, [some (.inr (.inl 30)), some (.inl a1), some (.inl a2), some (.inl a3), some (.inl a4), some (.inl a5), none], [.inl r3], n, D, s, p, c) _
  replace k5 : r3 = if 0 ≤ a1 ∧ a1 ≤ 65535 then (1 : Int) else 0 := k5
  subst k5
  show tt Zi d 142 (7, [some (.inr (.inl 30)), some (.inl a1), some (.inl a2), some (.inl a3), some (.inl a4), some (.inl a5), none], [.inl (if 0 ≤ a1 ∧ a1 ≤ 65535 then (1 : Int) else 0)], n, D, s, p, c) _
  have K7 : ∀ (j6 : Int) , (0 ≤ j6 ∧ j6 ≤ 1) → (((if 0 ≤ a1 ∧ a1 ≤ 65535 then (1 : Int) else 0) = 0 ∧ j6 = 0) ∨ ((if 0 ≤ a1 ∧ a1 ≤ 65535 then (1 : Int) else 0) ≠ 0 ∧ (if 0 ≤ a2 ∧ a2 ≤ 65535 then (1 : Int) else 0) = 0 ∧ j6 = 0) ∨ ((if 0 ≤ a1 ∧ a1 ≤ 65535 then (1 : Int) else 0) ≠ 0 ∧ (if 0 ≤ a2 ∧ a2 ≤ 65535 then (1 : Int) else 0) ≠ 0 ∧ (if 0 ≤ a3 ∧ a3 ≤ 65535 then (1 : Int) else 0) = 0 ∧ j6 = 0) ∨ ((if 0 ≤ a1 ∧ a1 ≤ 65535 then (1 : Int) else 0) ≠ 0 ∧ (if 0 ≤ a2 ∧ a2 ≤ 65535 then (1 : Int) else 0) ≠ 0 ∧ (if 0 ≤ a3 ∧ a3 ≤ 65535 then (1 : Int) else 0) ≠ 0 ∧ (if 0 ≤ a4 ∧ a4 ≤ 65535 then (1 : Int) else 0) = 0 ∧ j6 = 0) ∨ ((if 0 ≤ a1 ∧ a1 ≤ 65535 then (1 : Int) else 0) ≠ 0 ∧ (if 0 ≤ a2 ∧ a2 ≤ 65535 then (1 : Int) else 0) ≠ 0 ∧ (if 0 ≤ a3 ∧ a3 ≤ 65535 then (1 : Int) else 0) ≠ 0 ∧ (if 0 ≤ a4 ∧ a4 ≤ 65535 then (1 : Int) else 0) ≠ 0 ∧ (if 0 ≤ a5 ∧ a5 ≤ 65535 then (1 : Int) else 0) = 0 ∧ j6 = 0) ∨ ((if 0 ≤ a1 ∧ a1 ≤ 65535 then (1 : Int) else 0) ≠ 0 ∧ (if 0 ≤ a2 ∧ a2 ≤ 65535 then (1 : Int) else 0) ≠ 0 ∧ (if 0 ≤ a3 ∧ a3 ≤ 65535 then (1 : Int) else 0) ≠ 0 ∧ (if 0 ≤ a4 ∧ a4 ≤ 65535 then (1 : Int) else 0) ≠ 0 ∧ (if 0 ≤ a5 ∧ a5 ≤ 65535 then (1 : Int) else 0) ≠ 0 ∧ j6 = 1)) → tt Zi d 142 (57, [some (.inr (.inl 30)), some (.inl a1), some (.inl a2), some (.inl a3), some (.inl a4), some (.inl a5), none], [.inl j6], n, D, s, p, c) (fun R H => ∃ (s' : Nat → Int) (c' : Nat → Nat → Int), R = .inl none ∧ H = (n, D, s', p, c') ∧ bS s' ∧ bC D c' ∧ fr s s' [3000] ∧ frc c c' [32] ∧ (s' 3000 = if ((0 ≤ a1 ∧ a1 ≤ 65535) ∧ (0 ≤ a2 ∧ a2 ≤ 65535) ∧ (0 ≤ a3 ∧ a3 ≤ 65535) ∧ (0 ≤ a4 ∧ a4 ≤ 65535) ∧ (0 ≤ a5 ∧ a5 ≤ 65535) ∧ a1 ≤ mi_shl 1 (s 3004) - 1) then 0 else 1) ∧ (if ((0 ≤ a1 ∧ a1 ≤ 65535) ∧ (0 ≤ a2 ∧ a2 ≤ 65535) ∧ (0 ≤ a3 ∧ a3 ≤ 65535) ∧ (0 ≤ a4 ∧ a4 ≤ 65535) ∧ (0 ≤ a5 ∧ a5 ≤ 65535) ∧ a1 ≤ mi_shl 1 (s 3004) - 1) then (c' 32 0 = a1 ∧ c' 32 1 = a2 ∧ c' 32 2 = a3 ∧ c' 32 3 = a4 ∧ c' 32 4 = a5) else c' 32 = c 32)) := by
    intro j6 b9 hj8
    refine tt_k 3 (S' := (62, [some (.inr (.inl 30)), some (.inl a1), some (.inl a2), some (.inl a3), some (.inl a4), some (.inl a5), some (.inl j6)], [.inl j6, .inr (.inl 30)], n, D, s, p, c)) rfl ?_
    have K11 : ∀ (j10 : Int) , (0 ≤ j10 ∧ j10 ≤ 1) → ((j6 = 0 ∧ j10 = 1) ∨ (j6 ≠ 0 ∧ (mi_shl 1 ((s 3004)) - 1) < a1 ∧ j10 = 1) ∨ (j6 ≠ 0 ∧ a1 ≤ (mi_shl 1 ((s 3004)) - 1) ∧ j10 = 0)) → tt Zi d 142 (78, [some (.inr (.inl 30)), some (.inl a1), some (.inl a2), some (.inl a3), some (.inl a4), some (.inl a5), some (.inl j6)], [.inl j10, .inr (.inl 30)], n, D, s, p, c) (fun R H => ∃ (s' : Nat → Int) (c' : Nat → Nat → Int), R = .inl none ∧ H = (n, D, s', p, c') ∧ bS s' ∧ bC D c' ∧ fr s s' [3000] ∧ frc c c' [32] ∧ (s' 3000 = if ((0 ≤ a1 ∧ a1 ≤ 65535) ∧ (0 ≤ a2 ∧ a2 ≤ 65535) ∧ (0 ≤ a3 ∧ a3 ≤ 65535) ∧ (0 ≤ a4 ∧ a4 ≤ 65535) ∧ (0 ≤ a5 ∧ a5 ≤ 65535) ∧ a1 ≤ mi_shl 1 (s 3004) - 1) then 0 else 1) ∧ (if ((0 ≤ a1 ∧ a1 ≤ 65535) ∧ (0 ≤ a2 ∧ a2 ≤ 65535) ∧ (0 ≤ a3 ∧ a3 ≤ 65535) ∧ (0 ≤ a4 ∧ a4 ≤ 65535) ∧ (0 ≤ a5 ∧ a5 ≤ 65535) ∧ a1 ≤ mi_shl 1 (s 3004) - 1) then (c' 32 0 = a1 ∧ c' 32 1 = a2 ∧ c' 32 2 = a3 ∧ c' 32 3 = a4 ∧ c' 32 4 = a5) else c' 32 = c 32)) := by
      intro j10 b13 hj12
      refine tt_k 3 (S' := (85, [some (.inr (.inl 30)), some (.inl a1), some (.inl a2), some (.inl a3), some (.inl a4), some (.inl a5), some (.inl j6)], [.inl j10], n, D, (us s 3000 j10), p, c)) rfl ?_
      refine tz_le (x := j10) rfl rfl (by omega) (fun h14 => ?_) (fun h14 => ?_)
      · show tt Zi d 142 (89, [some (.inr (.inl 30)), some (.inl a1), some (.inl a2), some (.inl a3), some (.inl a4), some (.inl a5), some (.inl j6)], [], n, D, (us s 3000 j10), p, c) _
        refine tt_k 4 (S' := (95, [some (.inr (.inl 30)), some (.inl a1), some (.inl a2), some (.inl a3), some (.inl a4), some (.inl a5), some (.inl j6)], [.inl a1, .inl 0, .inr (.inl 32)], n, D, (us s 3000 j10), p, c)) rfl ?_
        refine tt_ist (i := 0) (x := a1) rfl rfl (by omega) ?_
        show tt Zi d 142 (96, [some (.inr (.inl 30)), some (.inl a1), some (.inl a2), some (.inl a3), some (.inl a4), some (.inl a5), some (.inl j6)], [], n, D, (us s 3000 j10), p, (uc c 32 (ua (c 32) (0 : Int).toNat a1))) _
        refine tt_k 4 (S' := (102, [some (.inr (.inl 30)), some (.inl a1), some (.inl a2), some (.inl a3), some (.inl a4), some (.inl a5), some (.inl j6)], [.inl a2, .inl 1, .inr (.inl 32)], n, D, (us s 3000 j10), p, (uc c 32 (ua (c 32) (0 : Int).toNat a1)))) rfl ?_
        refine tt_ist (i := 1) (x := a2) rfl rfl (by omega) ?_
        show tt Zi d 142 (103, [some (.inr (.inl 30)), some (.inl a1), some (.inl a2), some (.inl a3), some (.inl a4), some (.inl a5), some (.inl j6)], [], n, D, (us s 3000 j10), p, (uc (uc c 32 (ua (c 32) (0 : Int).toNat a1)) 32 (ua (ua (c 32) (0 : Int).toNat a1) (1 : Int).toNat a2))) _
        refine tt_k 4 (S' := (109, [some (.inr (.inl 30)), some (.inl a1), some (.inl a2), some (.inl a3), some (.inl a4), some (.inl a5), some (.inl j6)], [.inl a3, .inl 2, .inr (.inl 32)], n, D, (us s 3000 j10), p, (uc (uc c 32 (ua (c 32) (0 : Int).toNat a1)) 32 (ua (ua (c 32) (0 : Int).toNat a1) (1 : Int).toNat a2)))) rfl ?_
        refine tt_ist (i := 2) (x := a3) rfl rfl (by omega) ?_
        show tt Zi d 142 (110, [some (.inr (.inl 30)), some (.inl a1), some (.inl a2), some (.inl a3), some (.inl a4), some (.inl a5), some (.inl j6)], [], n, D, (us s 3000 j10), p, (uc (uc (uc c 32 (ua (c 32) (0 : Int).toNat a1)) 32 (ua (ua (c 32) (0 : Int).toNat a1) (1 : Int).toNat a2)) 32 (ua (ua (ua (c 32) (0 : Int).toNat a1) (1 : Int).toNat a2) (2 : Int).toNat a3))) _
        refine tt_k 4 (S' := (117, [some (.inr (.inl 30)), some (.inl a1), some (.inl a2), some (.inl a3), some (.inl a4), some (.inl a5), some (.inl j6)], [.inl a4, .inl 3, .inr (.inl 32)], n, D, (us s 3000 j10), p, (uc (uc (uc c 32 (ua (c 32) (0 : Int).toNat a1)) 32 (ua (ua (c 32) (0 : Int).toNat a1) (1 : Int).toNat a2)) 32 (ua (ua (ua (c 32) (0 : Int).toNat a1) (1 : Int).toNat a2) (2 : Int).toNat a3)))) rfl ?_
        refine tt_ist (i := 3) (x := a4) rfl rfl (by omega) ?_
        show tt Zi d 142 (118, [some (.inr (.inl 30)), some (.inl a1), some (.inl a2), some (.inl a3), some (.inl a4), some (.inl a5), some (.inl j6)], [], n, D, (us s 3000 j10), p, (uc (uc (uc (uc c 32 (ua (c 32) (0 : Int).toNat a1)) 32 (ua (ua (c 32) (0 : Int).toNat a1) (1 : Int).toNat a2)) 32 (ua (ua (ua (c 32) (0 : Int).toNat a1) (1 : Int).toNat a2) (2 : Int).toNat a3)) 32 (ua (ua (ua (ua (c 32) (0 : Int).toNat a1) (1 : Int).toNat a2) (2 : Int).toNat a3) (3 : Int).toNat a4))) _
        refine tt_k 4 (S' := (125, [some (.inr (.inl 30)), some (.inl a1), some (.inl a2), some (.inl a3), some (.inl a4), some (.inl a5), some (.inl j6)], [.inl a5, .inl 4, .inr (.inl 32)], n, D, (us s 3000 j10), p, (uc (uc (uc (uc c 32 (ua (c 32) (0 : Int).toNat a1)) 32 (ua (ua (c 32) (0 : Int).toNat a1) (1 : Int).toNat a2)) 32 (ua (ua (ua (c 32) (0 : Int).toNat a1) (1 : Int).toNat a2) (2 : Int).toNat a3)) 32 (ua (ua (ua (ua (c 32) (0 : Int).toNat a1) (1 : Int).toNat a2) (2 : Int).toNat a3) (3 : Int).toNat a4)))) rfl ?_
        refine tt_ist (i := 4) (x := a5) rfl rfl (by omega) ?_
        show tt Zi d 142 (126, [some (.inr (.inl 30)), some (.inl a1), some (.inl a2), some (.inl a3), some (.inl a4), some (.inl a5), some (.inl j6)], [], n, D, (us s 3000 j10), p, (uc (uc (uc (uc (uc c 32 (ua (c 32) (0 : Int).toNat a1)) 32 (ua (ua (c 32) (0 : Int).toNat a1) (1 : Int).toNat a2)) 32 (ua (ua (ua (c 32) (0 : Int).toNat a1) (1 : Int).toNat a2) (2 : Int).toNat a3)) 32 (ua (ua (ua (ua (c 32) (0 : Int).toNat a1) (1 : Int).toNat a2) (2 : Int).toNat a3) (3 : Int).toNat a4)) 32 (ua (ua (ua (ua (ua (c 32) (0 : Int).toNat a1) (1 : Int).toNat a2) (2 : Int).toNat a3) (3 : Int).toNat a4) (4 : Int).toNat a5))) _
        exact tt_rtv rfl rfl ⟨(us s 3000 j10), (uc (uc (uc (uc (uc c 32 (ua (c 32) (0 : Int).toNat a1)) 32 (ua (ua (c 32) (0 : Int).toNat a1) (1 : Int).toNat a2)) 32 (ua (ua (ua (c 32) (0 : Int).toNat a1) (1 : Int).toNat a2) (2 : Int).toNat a3)) 32 (ua (ua (ua (ua (c 32) (0 : Int).toNat a1) (1 : Int).toNat a2) (2 : Int).toNat a3) (3 : Int).toNat a4)) 32 (ua (ua (ua (ua (ua (c 32) (0 : Int).toNat a1) (1 : Int).toNat a2) (2 : Int).toNat a3) (3 : Int).toNat a4) (4 : Int).toNat a5)), rfl, rfl, (bS_us hS (show 0 ≤ j10 ∧ j10 ≤ 2 by omega)), (bC_st (bC_st (bC_st (bC_st (bC_st hC (show 0 ≤ a1 ∧ a1 ≤ 65535 by omega)) (show 0 ≤ a2 ∧ a2 ≤ 65535 by omega)) (show 0 ≤ a3 ∧ a3 ≤ 65535 by omega)) (show 0 ≤ a4 ∧ a4 ≤ 65535 by omega)) (show 0 ≤ a5 ∧ a5 ≤ 65535 by omega)), (fr_us (by decide) fr_rf), (frc_uc (by decide) (frc_uc (by decide) (frc_uc (by decide) (frc_uc (by decide) (frc_uc (by decide) frc_rf))))), by show j10 = if ((0 ≤ a1 ∧ a1 ≤ 65535) ∧ (0 ≤ a2 ∧ a2 ≤ 65535) ∧ (0 ≤ a3 ∧ a3 ≤ 65535) ∧ (0 ≤ a4 ∧ a4 ≤ 65535) ∧ (0 ≤ a5 ∧ a5 ≤ 65535) ∧ a1 ≤ mi_shl 1 (s 3004) - 1) then 0 else 1; first | omega | (split <;> omega) | (split <;> (try split) <;> omega), by show if ((0 ≤ a1 ∧ a1 ≤ 65535) ∧ (0 ≤ a2 ∧ a2 ≤ 65535) ∧ (0 ≤ a3 ∧ a3 ≤ 65535) ∧ (0 ≤ a4 ∧ a4 ≤ 65535) ∧ (0 ≤ a5 ∧ a5 ≤ 65535) ∧ a1 ≤ mi_shl 1 (s 3004) - 1) then ((ua (ua (ua (ua (ua (c 32) (0 : Int).toNat a1) (1 : Int).toNat a2) (2 : Int).toNat a3) (3 : Int).toNat a4) (4 : Int).toNat a5) 0 = a1 ∧ (ua (ua (ua (ua (ua (c 32) (0 : Int).toNat a1) (1 : Int).toNat a2) (2 : Int).toNat a3) (3 : Int).toNat a4) (4 : Int).toNat a5) 1 = a2 ∧ (ua (ua (ua (ua (ua (c 32) (0 : Int).toNat a1) (1 : Int).toNat a2) (2 : Int).toNat a3) (3 : Int).toNat a4) (4 : Int).toNat a5) 2 = a3 ∧ (ua (ua (ua (ua (ua (c 32) (0 : Int).toNat a1) (1 : Int).toNat a2) (2 : Int).toNat a3) (3 : Int).toNat a4) (4 : Int).toNat a5) 3 = a4 ∧ (ua (ua (ua (ua (ua (c 32) (0 : Int).toNat a1) (1 : Int).toNat a2) (2 : Int).toNat a3) (3 : Int).toNat a4) (4 : Int).toNat a5) 4 = a5) else (ua (ua (ua (ua (ua (c 32) (0 : Int).toNat a1) (1 : Int).toNat a2) (2 : Int).toNat a3) (3 : Int).toNat a4) (4 : Int).toNat a5) = c 32; rw [if_pos (by omega)]; exact ⟨rfl, rfl, rfl, rfl, rfl⟩⟩
      · show tt Zi d 142 (88, [some (.inr (.inl 30)), some (.inl a1), some (.inl a2), some (.inl a3), some (.inl a4), some (.inl a5), some (.inl j6)], [], n, D, (us s 3000 j10), p, c) _
        exact tt_rtv rfl rfl ⟨(us s 3000 j10), c, rfl, rfl, (bS_us hS (show 0 ≤ j10 ∧ j10 ≤ 2 by omega)), hC, (fr_us (by decide) fr_rf), frc_rf, by show j10 = if ((0 ≤ a1 ∧ a1 ≤ 65535) ∧ (0 ≤ a2 ∧ a2 ≤ 65535) ∧ (0 ≤ a3 ∧ a3 ≤ 65535) ∧ (0 ≤ a4 ∧ a4 ≤ 65535) ∧ (0 ≤ a5 ∧ a5 ≤ 65535) ∧ a1 ≤ mi_shl 1 (s 3004) - 1) then 0 else 1; first | omega | (split <;> omega) | (split <;> (try split) <;> omega), by show if ((0 ≤ a1 ∧ a1 ≤ 65535) ∧ (0 ≤ a2 ∧ a2 ≤ 65535) ∧ (0 ≤ a3 ∧ a3 ≤ 65535) ∧ (0 ≤ a4 ∧ a4 ≤ 65535) ∧ (0 ≤ a5 ∧ a5 ≤ 65535) ∧ a1 ≤ mi_shl 1 (s 3004) - 1) then ((c 32) 0 = a1 ∧ (c 32) 1 = a2 ∧ (c 32) 2 = a3 ∧ (c 32) 3 = a4 ∧ (c 32) 4 = a5) else (c 32) = c 32; rw [if_neg (by omega)]⟩
    refine tz_eq (x := j6) rfl rfl (by omega) (fun h15 => ?_) (fun h15 => ?_)
    · show tt Zi d 142 (77, [some (.inr (.inl 30)), some (.inl a1), some (.inl a2), some (.inl a3), some (.inl a4), some (.inl a5), some (.inl j6)], [.inr (.inl 30)], n, D, s, p, c) _
      refine tt_k 1 (S' := (78, [some (.inr (.inl 30)), some (.inl a1), some (.inl a2), some (.inl a3), some (.inl a4), some (.inl a5), some (.inl j6)], [.inl 1, .inr (.inl 30)], n, D, s, p, c)) rfl ?_
      exact K11 1  (by omega) (Or.inl ⟨h15, rfl⟩)
    · show tt Zi d 142 (65, [some (.inr (.inl 30)), some (.inl a1), some (.inl a2), some (.inl a3), some (.inl a4), some (.inl a5), some (.inl j6)], [.inr (.inl 30)], n, D, s, p, c) _
      refine tt_k 2 (S' := (67, [some (.inr (.inl 30)), some (.inl a1), some (.inl a2), some (.inl a3), some (.inl a4), some (.inl a5), some (.inl j6)], [.inr (.inl 30), .inl a1, .inr (.inl 30)], n, D, s, p, c)) rfl ?_
      refine tt_cl (by omega) rfl (k_greatest (Zi := Zi) (D := D) (s := s) (p := p) (c := c) (by omega) hS hC ) ?_
      rintro _ _ ⟨r16, rfl, rfl, b17, k18⟩
      show tt Zi d 142 (70, [some (.inr (.inl 30)), some (.inl a1), some (.inl a2), some (.inl a3), some (.inl a4), some (.inl a5), some (.inl j6)], [.inl r16, .inl a1, .inr (.inl 30)], n, D, s, p, c) _
      replace k18 : r16 = mi_shl 1 ((s 3004)) - 1 := k18
      subst k18
      show tt Zi d 142 (70, [some (.inr (.inl 30)), some (.inl a1), some (.inl a2), some (.inl a3), some (.inl a4), some (.inl a5), some (.inl j6)], [.inl ((mi_shl 1 ((s 3004)) - 1)), .inl a1, .inr (.inl 30)], n, D, s, p, c) _
      refine tb_gt (x := a1) (y := (mi_shl 1 ((s 3004)) - 1)) rfl rfl (by omega) (fun h19 => ?_) (fun h19 => ?_)
      · show tt Zi d 142 (77, [some (.inr (.inl 30)), some (.inl a1), some (.inl a2), some (.inl a3), some (.inl a4), some (.inl a5), some (.inl j6)], [.inr (.inl 30)], n, D, s, p, c) _
        refine tt_k 1 (S' := (78, [some (.inr (.inl 30)), some (.inl a1), some (.inl a2), some (.inl a3), some (.inl a4), some (.inl a5), some (.inl j6)], [.inl 1, .inr (.inl 30)], n, D, s, p, c)) rfl ?_
        exact K11 1  (by omega) (Or.inr (Or.inl ⟨h15, h19, rfl⟩))
      · show tt Zi d 142 (73, [some (.inr (.inl 30)), some (.inl a1), some (.inl a2), some (.inl a3), some (.inl a4), some (.inl a5), some (.inl j6)], [.inr (.inl 30)], n, D, s, p, c) _
        refine tt_k 2 (S' := (78, [some (.inr (.inl 30)), some (.inl a1), some (.inl a2), some (.inl a3), some (.inl a4), some (.inl a5), some (.inl j6)], [.inl 0, .inr (.inl 30)], n, D, s, p, c)) rfl ?_
        exact K11 0  (by omega) (Or.inr (Or.inr (⟨h15, h19, rfl⟩)))
  refine tz_eq (x := (if 0 ≤ a1 ∧ a1 ≤ 65535 then (1 : Int) else 0)) rfl rfl (by omega) (fun h20 => ?_) (fun h20 => ?_)
  · show tt Zi d 142 (56, [some (.inr (.inl 30)), some (.inl a1), some (.inl a2), some (.inl a3), some (.inl a4), some (.inl a5), none], [], n, D, s, p, c) _
    refine tt_k 1 (S' := (57, [some (.inr (.inl 30)), some (.inl a1), some (.inl a2), some (.inl a3), some (.inl a4), some (.inl a5), none], [.inl 0], n, D, s, p, c)) rfl ?_
    exact K7 0  (by omega) (Or.inl ⟨h20, rfl⟩)
  · show tt Zi d 142 (10, [some (.inr (.inl 30)), some (.inl a1), some (.inl a2), some (.inl a3), some (.inl a4), some (.inl a5), none], [], n, D, s, p, c) _
    refine tt_k 3 (S' := (14, [some (.inr (.inl 30)), some (.inl a1), some (.inl a2), some (.inl a3), some (.inl a4), some (.inl a5), none], [.inl 65535, .inl 0, .inl a2], n, D, s, p, c)) rfl ?_
    refine tt_cl (by omega) rfl (k_isIn (Zi := Zi) (D := D) (s := s) (p := p) (c := c) (by omega) hS hC a2 0 65535 (by omega) (by omega) (by omega)) ?_
    rintro _ _ ⟨r21, rfl, rfl, b22, k23⟩
    show tt Zi d 142 (17, [some (.inr (.inl 30)), some (.inl a1), some (.inl a2), some (.inl a3), some (.inl a4), some (.inl a5), none], [.inl r21], n, D, s, p, c) _
    replace k23 : r21 = if 0 ≤ a2 ∧ a2 ≤ 65535 then (1 : Int) else 0 := k23
    subst k23
    show tt Zi d 142 (17, [some (.inr (.inl 30)), some (.inl a1), some (.inl a2), some (.inl a3), some (.inl a4), some (.inl a5), none], [.inl (if 0 ≤ a2 ∧ a2 ≤ 65535 then (1 : Int) else 0)], n, D, s, p, c) _
    refine tz_eq (x := (if 0 ≤ a2 ∧ a2 ≤ 65535 then (1 : Int) else 0)) rfl rfl (by omega) (fun h24 => ?_) (fun h24 => ?_)
    · show tt Zi d 142 (56, [some (.inr (.inl 30)), some (.inl a1), some (.inl a2), some (.inl a3), some (.inl a4), some (.inl a5), none], [], n, D, s, p, c) _
      refine tt_k 1 (S' := (57, [some (.inr (.inl 30)), some (.inl a1), some (.inl a2), some (.inl a3), some (.inl a4), some (.inl a5), none], [.inl 0], n, D, s, p, c)) rfl ?_
      exact K7 0  (by omega) (Or.inr (Or.inl ⟨h20, h24, rfl⟩))
    · show tt Zi d 142 (20, [some (.inr (.inl 30)), some (.inl a1), some (.inl a2), some (.inl a3), some (.inl a4), some (.inl a5), none], [], n, D, s, p, c) _
      refine tt_k 3 (S' := (24, [some (.inr (.inl 30)), some (.inl a1), some (.inl a2), some (.inl a3), some (.inl a4), some (.inl a5), none], [.inl 65535, .inl 0, .inl a3], n, D, s, p, c)) rfl ?_
      refine tt_cl (by omega) rfl (k_isIn (Zi := Zi) (D := D) (s := s) (p := p) (c := c) (by omega) hS hC a3 0 65535 (by omega) (by omega) (by omega)) ?_
      rintro _ _ ⟨r25, rfl, rfl, b26, k27⟩
      show tt Zi d 142 (27, [some (.inr (.inl 30)), some (.inl a1), some (.inl a2), some (.inl a3), some (.inl a4), some (.inl a5), none], [.inl r25], n, D, s, p, c) _
      replace k27 : r25 = if 0 ≤ a3 ∧ a3 ≤ 65535 then (1 : Int) else 0 := k27
      subst k27
      show tt Zi d 142 (27, [some (.inr (.inl 30)), some (.inl a1), some (.inl a2), some (.inl a3), some (.inl a4), some (.inl a5), none], [.inl (if 0 ≤ a3 ∧ a3 ≤ 65535 then (1 : Int) else 0)], n, D, s, p, c) _
      refine tz_eq (x := (if 0 ≤ a3 ∧ a3 ≤ 65535 then (1 : Int) else 0)) rfl rfl (by omega) (fun h28 => ?_) (fun h28 => ?_)
      · show tt Zi d 142 (56, [some (.inr (.inl 30)), some (.inl a1), some (.inl a2), some (.inl a3), some (.inl a4), some (.inl a5), none], [], n, D, s, p, c) _
        refine tt_k 1 (S' := (57, [some (.inr (.inl 30)), some (.inl a1), some (.inl a2), some (.inl a3), some (.inl a4), some (.inl a5), none], [.inl 0], n, D, s, p, c)) rfl ?_
        exact K7 0  (by omega) (Or.inr (Or.inr (Or.inl ⟨h20, h24, h28, rfl⟩)))
      · show tt Zi d 142 (30, [some (.inr (.inl 30)), some (.inl a1), some (.inl a2), some (.inl a3), some (.inl a4), some (.inl a5), none], [], n, D, s, p, c) _
        refine tt_k 3 (S' := (35, [some (.inr (.inl 30)), some (.inl a1), some (.inl a2), some (.inl a3), some (.inl a4), some (.inl a5), none], [.inl 65535, .inl 0, .inl a4], n, D, s, p, c)) rfl ?_
        refine tt_cl (by omega) rfl (k_isIn (Zi := Zi) (D := D) (s := s) (p := p) (c := c) (by omega) hS hC a4 0 65535 (by omega) (by omega) (by omega)) ?_
        rintro _ _ ⟨r29, rfl, rfl, b30, k31⟩
        show tt Zi d 142 (38, [some (.inr (.inl 30)), some (.inl a1), some (.inl a2), some (.inl a3), some (.inl a4), some (.inl a5), none], [.inl r29], n, D, s, p, c) _
        replace k31 : r29 = if 0 ≤ a4 ∧ a4 ≤ 65535 then (1 : Int) else 0 := k31
        subst k31
        show tt Zi d 142 (38, [some (.inr (.inl 30)), some (.inl a1), some (.inl a2), some (.inl a3), some (.inl a4), some (.inl a5), none], [.inl (if 0 ≤ a4 ∧ a4 ≤ 65535 then (1 : Int) else 0)], n, D, s, p, c) _
        refine tz_eq (x := (if 0 ≤ a4 ∧ a4 ≤ 65535 then (1 : Int) else 0)) rfl rfl (by omega) (fun h32 => ?_) (fun h32 => ?_)
        · show tt Zi d 142 (56, [some (.inr (.inl 30)), some (.inl a1), some (.inl a2), some (.inl a3), some (.inl a4), some (.inl a5), none], [], n, D, s, p, c) _
          refine tt_k 1 (S' := (57, [some (.inr (.inl 30)), some (.inl a1), some (.inl a2), some (.inl a3), some (.inl a4), some (.inl a5), none], [.inl 0], n, D, s, p, c)) rfl ?_
          exact K7 0  (by omega) (Or.inr (Or.inr (Or.inr (Or.inl ⟨h20, h24, h28, h32, rfl⟩))))
        · show tt Zi d 142 (41, [some (.inr (.inl 30)), some (.inl a1), some (.inl a2), some (.inl a3), some (.inl a4), some (.inl a5), none], [], n, D, s, p, c) _
          refine tt_k 3 (S' := (46, [some (.inr (.inl 30)), some (.inl a1), some (.inl a2), some (.inl a3), some (.inl a4), some (.inl a5), none], [.inl 65535, .inl 0, .inl a5], n, D, s, p, c)) rfl ?_
          refine tt_cl (by omega) rfl (k_isIn (Zi := Zi) (D := D) (s := s) (p := p) (c := c) (by omega) hS hC a5 0 65535 (by omega) (by omega) (by omega)) ?_
          rintro _ _ ⟨r33, rfl, rfl, b34, k35⟩
          show tt Zi d 142 (49, [some (.inr (.inl 30)), some (.inl a1), some (.inl a2), some (.inl a3), some (.inl a4), some (.inl a5), none], [.inl r33], n, D, s, p, c) _
          replace k35 : r33 = if 0 ≤ a5 ∧ a5 ≤ 65535 then (1 : Int) else 0 := k35
          subst k35
          show tt Zi d 142 (49, [some (.inr (.inl 30)), some (.inl a1), some (.inl a2), some (.inl a3), some (.inl a4), some (.inl a5), none], [.inl (if 0 ≤ a5 ∧ a5 ≤ 65535 then (1 : Int) else 0)], n, D, s, p, c) _
          refine tz_eq (x := (if 0 ≤ a5 ∧ a5 ≤ 65535 then (1 : Int) else 0)) rfl rfl (by omega) (fun h36 => ?_) (fun h36 => ?_)
          · show tt Zi d 142 (56, [some (.inr (.inl 30)), some (.inl a1), some (.inl a2), some (.inl a3), some (.inl a4), some (.inl a5), none], [], n, D, s, p, c) _
            refine tt_k 1 (S' := (57, [some (.inr (.inl 30)), some (.inl a1), some (.inl a2), some (.inl a3), some (.inl a4), some (.inl a5), none], [.inl 0], n, D, s, p, c)) rfl ?_
            exact K7 0  (by omega) (Or.inr (Or.inr (Or.inr (Or.inr (Or.inl ⟨h20, h24, h28, h32, h36, rfl⟩)))))
          · show tt Zi d 142 (52, [some (.inr (.inl 30)), some (.inl a1), some (.inl a2), some (.inl a3), some (.inl a4), some (.inl a5), none], [], n, D, s, p, c) _
            refine tt_k 2 (S' := (57, [some (.inr (.inl 30)), some (.inl a1), some (.inl a2), some (.inl a3), some (.inl a4), some (.inl a5), none], [.inl 1], n, D, s, p, c)) rfl ?_
            exact K7 1  (by omega) (Or.inr (Or.inr (Or.inr (Or.inr (Or.inr (⟨h20, h24, h28, h32, h36, rfl⟩))))))
set_option maxRecDepth 100000 in
set_option maxHeartbeats 4000000 in
theorem k_out3 {Zi : Nat → Option (Nat × (Nat → Int))} {d n : Nat} {D : Nat → Nat × Nat} {s : Nat → Int} {p : Nat → Nat} {c : Nat → Nat → Int} (hd : 0 ≤ d) (hS : bS s) (hC : bC D c) (i : Int) (b_i : -2147483648 ≤ i ∧ i ≤ 2147483647) : tt Zi d 179 (0, [some (.inr (.inl 30)), some (.inl i)], [], n, D, s, p, c) (fun R H => ∃ (s' : Nat → Int) (r : Int), R = .inl (some (.inl r)) ∧ H = (n, D, s', p, c) ∧ bS s' ∧ fr s s' [3000] ∧ (0 ≤ r ∧ r ≤ 255) ∧ (s' 3000 = if 0 ≤ i ∧ i < s 3016 then 0 else 1) ∧ (r = if 0 ≤ i ∧ i < s 3016 then mi_and (c 35 i.toNat) 255 else 0)) := by
  refine tt_k 2 (S' := (2, [some (.inr (.inl 30)), some (.inl i)], [.inl i, .inr (.inl 30)], n, D, s, p, c)) rfl ?_
  have K2 : ∀ (j1 : Int) , (0 ≤ j1 ∧ j1 ≤ 1) → ((i < 0 ∧ j1 = 1) ∨ (0 ≤ i ∧ i < (s 3016) ∧ j1 = 0) ∨ (0 ≤ i ∧ (s 3016) ≤ i ∧ j1 = 1)) → tt Zi d 179 (18, [some (.inr (.inl 30)), some (.inl i)], [.inl j1, .inr (.inl 30)], n, D, s, p, c) (fun R H => ∃ (s' : Nat → Int) (r : Int), R = .inl (some (.inl r)) ∧ H = (n, D, s', p, c) ∧ bS s' ∧ fr s s' [3000] ∧ (0 ≤ r ∧ r ≤ 255) ∧ (s' 3000 = if 0 ≤ i ∧ i < s 3016 then 0 else 1) ∧ (r = if 0 ≤ i ∧ i < s 3016 then mi_and (c 35 i.toNat) 255 else 0)) := by
    intro j1 b4 hj3
    have b5 : 0 ≤ (s 3016) ∧ (s 3016) ≤ 65536 := hS 3016
    refine tt_k 3 (S' := (25, [some (.inr (.inl 30)), some (.inl i)], [.inl j1], n, D, (us s 3000 j1), p, c)) rfl ?_
    refine tz_le (x := j1) rfl rfl (by omega) (fun h6 => ?_) (fun h6 => ?_)
    · show tt Zi d 179 (32, [some (.inr (.inl 30)), some (.inl i)], [], n, D, (us s 3000 j1), p, c) _
      refine tt_k 3 (S' := (37, [some (.inr (.inl 30)), some (.inl i)], [.inl i, .inr (.inl 35)], n, D, (us s 3000 j1), p, c)) rfl ?_
      refine tt_bldv (i := i) (v := (c 35 (i).toNat)) rfl rfl (by omega) rfl ?_
      show tt Zi d 179 (38, [some (.inr (.inl 30)), some (.inl i)], [.inl (c 35 (i).toNat)], n, D, (us s 3000 j1), p, c) _
      have b7 : -128 ≤ (c 35 (i).toNat) ∧ (c 35 (i).toNat) ≤ 127 := hC 35 _
      refine tt_k 2 (S' := (42, [some (.inr (.inl 30)), some (.inl i)], [.inl ((mi_and (c 35 (i).toNat) 255))], n, D, (us s 3000 j1), p, c)) rfl ?_
      have e8 := mi_and255 (c 35 (i).toNat)
      exact tt_rti rfl rfl ⟨(us s 3000 j1), (mi_and (c 35 (i).toNat) 255), rfl, rfl, (bS_us hS (show 0 ≤ j1 ∧ j1 ≤ 2 by omega)), (fr_us (by decide) fr_rf), by omega, by show j1 = if 0 ≤ i ∧ i < s 3016 then 0 else 1; first | omega | (split <;> omega) | (split <;> (try split) <;> omega), by show ((mi_and (c 35 (i).toNat) 255)) = if 0 ≤ i ∧ i < s 3016 then mi_and (c 35 i.toNat) 255 else 0; rw [if_pos (by omega)]⟩
    · show tt Zi d 179 (28, [some (.inr (.inl 30)), some (.inl i)], [], n, D, (us s 3000 j1), p, c) _
      refine tt_k 2 (S' := (42, [some (.inr (.inl 30)), some (.inl i)], [.inl 0], n, D, (us s 3000 j1), p, c)) rfl ?_
      exact tt_rti rfl rfl ⟨(us s 3000 j1), 0, rfl, rfl, (bS_us hS (show 0 ≤ j1 ∧ j1 ≤ 2 by omega)), (fr_us (by decide) fr_rf), by omega, by show j1 = if 0 ≤ i ∧ i < s 3016 then 0 else 1; first | omega | (split <;> omega) | (split <;> (try split) <;> omega), by show 0 = if 0 ≤ i ∧ i < s 3016 then mi_and (c 35 i.toNat) 255 else 0; rw [if_neg (by omega)]⟩
  refine tz_lt (x := i) rfl rfl (by omega) (fun h9 => ?_) (fun h9 => ?_)
  · show tt Zi d 179 (13, [some (.inr (.inl 30)), some (.inl i)], [.inr (.inl 30)], n, D, s, p, c) _
    refine tt_k 2 (S' := (18, [some (.inr (.inl 30)), some (.inl i)], [.inl 1, .inr (.inl 30)], n, D, s, p, c)) rfl ?_
    exact K2 1  (by omega) (Or.inl ⟨h9, rfl⟩)
  · show tt Zi d 179 (5, [some (.inr (.inl 30)), some (.inl i)], [.inr (.inl 30)], n, D, s, p, c) _
    refine tt_k 3 (S' := (10, [some (.inr (.inl 30)), some (.inl i)], [.inl (s 3016), .inl i, .inr (.inl 30)], n, D, s, p, c)) rfl ?_
    have b10 : 0 ≤ (s 3016) ∧ (s 3016) ≤ 65536 := hS 3016
    refine tb_lt (x := i) (y := (s 3016)) rfl rfl (by omega) (fun h11 => ?_) (fun h11 => ?_)
    · show tt Zi d 179 (17, [some (.inr (.inl 30)), some (.inl i)], [.inr (.inl 30)], n, D, s, p, c) _
      refine tt_k 1 (S' := (18, [some (.inr (.inl 30)), some (.inl i)], [.inl 0, .inr (.inl 30)], n, D, s, p, c)) rfl ?_
      exact K2 0  (by omega) (Or.inr (Or.inl ⟨h9, h11, rfl⟩))
    · show tt Zi d 179 (13, [some (.inr (.inl 30)), some (.inl i)], [.inr (.inl 30)], n, D, s, p, c) _
      refine tt_k 2 (S' := (18, [some (.inr (.inl 30)), some (.inl i)], [.inl 1, .inr (.inl 30)], n, D, s, p, c)) rfl ?_
      exact K2 1  (by omega) (Or.inr (Or.inr (⟨h9, h11, rfl⟩)))
set_option maxRecDepth 100000 in
set_option maxHeartbeats 4000000 in
theorem k_feed3 {Zi : Nat → Option (Nat × (Nat → Int))} {d n : Nat} {D : Nat → Nat × Nat} {s : Nat → Int} {p : Nat → Nat} {c : Nat → Nat → Int} (hd : 1 ≤ d) (hS : bS s) (hC : bC D c) (a1 : Int) (a2 : Int) (a3 : Int) (a4 : Int) (a5 : Int) (b_a1 : -2147483648 ≤ a1 ∧ a1 ≤ 2147483647) (b_a2 : -2147483648 ≤ a2 ∧ a2 ≤ 2147483647) (b_a3 : -2147483648 ≤ a3 ∧ a3 ≤ 2147483647) (b_a4 : -2147483648 ≤ a4 ∧ a4 ≤ 2147483647) (b_a5 : -2147483648 ≤ a5 ∧ a5 ≤ 2147483647) : tt Zi d 180 (0, [some (.inr (.inl 30)), some (.inl a1), some (.inl a2), some (.inl a3), some (.inl a4), some (.inl a5)], [], n, D, s, p, c) (fun R H => ∃ (s' : Nat → Int) (c' : Nat → Nat → Int) (r : Int), R = .inl (some (.inl r)) ∧ H = (n, D, s', p, c') ∧ bS s' ∧ bC D c' ∧ fr s s' [3000, 3014] ∧ frc c c' [34] ∧ (0 ≤ r ∧ r ≤ 32768) ∧ (s' 3000 = if s 3014 + 20 ≤ 32768 then 0 else 1) ∧ (s' 3014 = if s 3014 + 20 ≤ 32768 then s 3014 + 20 else s 3014) ∧ (r = if s 3014 + 20 ≤ 32768 then s 3014 + 20 else 0)) := by
  refine tt_k 6 (S' := (10, [some (.inr (.inl 30)), some (.inl a1), some (.inl a2), some (.inl a3), some (.inl a4), some (.inl a5)], [.inl 32768, .inl ((s 3014) + 20), .inr (.inl 30)], n, D, s, p, c)) rfl ?_
  have b1 : 0 ≤ (s 3014) ∧ (s 3014) ≤ 32768 := hS 3014
  have K3 : ∀ (j2 : Int) , (0 ≤ j2 ∧ j2 ≤ 1) → ((((s 3014) + 20) ≤ 32768 ∧ j2 = 0) ∨ (32768 < ((s 3014) + 20) ∧ j2 = 1)) → tt Zi d 180 (18, [some (.inr (.inl 30)), some (.inl a1), some (.inl a2), some (.inl a3), some (.inl a4), some (.inl a5)], [.inl j2, .inr (.inl 30)], n, D, s, p, c) (fun R H => ∃ (s' : Nat → Int) (c' : Nat → Nat → Int) (r : Int), R = .inl (some (.inl r)) ∧ H = (n, D, s', p, c') ∧ bS s' ∧ bC D c' ∧ fr s s' [3000, 3014] ∧ frc c c' [34] ∧ (0 ≤ r ∧ r ≤ 32768) ∧ (s' 3000 = if s 3014 + 20 ≤ 32768 then 0 else 1) ∧ (s' 3014 = if s 3014 + 20 ≤ 32768 then s 3014 + 20 else s 3014) ∧ (r = if s 3014 + 20 ≤ 32768 then s 3014 + 20 else 0)) := by
    intro j2 b5 hj4
    refine tt_k 3 (S' := (25, [some (.inr (.inl 30)), some (.inl a1), some (.inl a2), some (.inl a3), some (.inl a4), some (.inl a5)], [.inl j2], n, D, (us s 3000 j2), p, c)) rfl ?_
    refine tz_le (x := j2) rfl rfl (by omega) (fun h6 => ?_) (fun h6 => ?_)
    · show tt Zi d 180 (30, [some (.inr (.inl 30)), some (.inl a1), some (.inl a2), some (.inl a3), some (.inl a4), some (.inl a5)], [], n, D, (us s 3000 j2), p, c) _
      refine tt_k 2 (S' := (32, [some (.inr (.inl 30)), some (.inl a1), some (.inl a2), some (.inl a3), some (.inl a4), some (.inl a5)], [.inl a1, .inr (.inl 30)], n, D, (us s 3000 j2), p, c)) rfl ?_
      refine tt_cl (by omega) rfl (k_type (Zi := Zi) (D := D) (s := (us s 3000 j2)) (p := p) (c := c) (by omega) (bS_us hS (show 0 ≤ j2 ∧ j2 ≤ 2 by omega)) hC a1 (by omega) (show (s 3014) ≤ 32764 by omega)) ?_
      rintro _ _ ⟨s7, c8, rfl, rfl, hS7, hC8, f9, g10, k11⟩
      show tt Zi d 180 (35, [some (.inr (.inl 30)), some (.inl a1), some (.inl a2), some (.inl a3), some (.inl a4), some (.inl a5)], [], n, D, s7, p, c8) _
      replace k11 : (s7 3014) = (s 3014) + 4 := k11
      have b12 : 0 ≤ (s7 3014) ∧ (s7 3014) ≤ 32768 := hS7 3014
      have e13 : s7 3000 = j2 := (f9 3000 (by decide))
      have b14 : 0 ≤ (s7 3000) ∧ (s7 3000) ≤ 2 := hS7 3000
      refine tt_k 2 (S' := (37, [some (.inr (.inl 30)), some (.inl a1), some (.inl a2), some (.inl a3), some (.inl a4), some (.inl a5)], [.inl a2, .inr (.inl 30)], n, D, s7, p, c8)) rfl ?_
      refine tt_cl (by omega) rfl (k_type (Zi := Zi) (D := D) (s := s7) (p := p) (c := c8) (by omega) hS7 hC8 a2 (by omega) (show (s7 3014) ≤ 32764 by omega)) ?_
      rintro _ _ ⟨s15, c16, rfl, rfl, hS15, hC16, f17, g18, k19⟩
      show tt Zi d 180 (40, [some (.inr (.inl 30)), some (.inl a1), some (.inl a2), some (.inl a3), some (.inl a4), some (.inl a5)], [], n, D, s15, p, c16) _
      replace k19 : (s15 3014) = (s7 3014) + 4 := k19
      have b20 : 0 ≤ (s15 3014) ∧ (s15 3014) ≤ 32768 := hS15 3014
      have e21 : s15 3000 = (s7 3000) := (f17 3000 (by decide))
      have b22 : 0 ≤ (s15 3000) ∧ (s15 3000) ≤ 2 := hS15 3000
      refine tt_k 2 (S' := (42, [some (.inr (.inl 30)), some (.inl a1), some (.inl a2), some (.inl a3), some (.inl a4), some (.inl a5)], [.inl a3, .inr (.inl 30)], n, D, s15, p, c16)) rfl ?_
      refine tt_cl (by omega) rfl (k_type (Zi := Zi) (D := D) (s := s15) (p := p) (c := c16) (by omega) hS15 hC16 a3 (by omega) (show (s15 3014) ≤ 32764 by omega)) ?_
      rintro _ _ ⟨s23, c24, rfl, rfl, hS23, hC24, f25, g26, k27⟩
      show tt Zi d 180 (45, [some (.inr (.inl 30)), some (.inl a1), some (.inl a2), some (.inl a3), some (.inl a4), some (.inl a5)], [], n, D, s23, p, c24) _
      replace k27 : (s23 3014) = (s15 3014) + 4 := k27
      have b28 : 0 ≤ (s23 3014) ∧ (s23 3014) ≤ 32768 := hS23 3014
      have e29 : s23 3000 = (s15 3000) := (f25 3000 (by decide))
      have b30 : 0 ≤ (s23 3000) ∧ (s23 3000) ≤ 2 := hS23 3000
      refine tt_k 2 (S' := (48, [some (.inr (.inl 30)), some (.inl a1), some (.inl a2), some (.inl a3), some (.inl a4), some (.inl a5)], [.inl a4, .inr (.inl 30)], n, D, s23, p, c24)) rfl ?_
      refine tt_cl (by omega) rfl (k_type (Zi := Zi) (D := D) (s := s23) (p := p) (c := c24) (by omega) hS23 hC24 a4 (by omega) (show (s23 3014) ≤ 32764 by omega)) ?_
      rintro _ _ ⟨s31, c32, rfl, rfl, hS31, hC32, f33, g34, k35⟩
      show tt Zi d 180 (51, [some (.inr (.inl 30)), some (.inl a1), some (.inl a2), some (.inl a3), some (.inl a4), some (.inl a5)], [], n, D, s31, p, c32) _
      replace k35 : (s31 3014) = (s23 3014) + 4 := k35
      have b36 : 0 ≤ (s31 3014) ∧ (s31 3014) ≤ 32768 := hS31 3014
      have e37 : s31 3000 = (s23 3000) := (f33 3000 (by decide))
      have b38 : 0 ≤ (s31 3000) ∧ (s31 3000) ≤ 2 := hS31 3000
      refine tt_k 2 (S' := (54, [some (.inr (.inl 30)), some (.inl a1), some (.inl a2), some (.inl a3), some (.inl a4), some (.inl a5)], [.inl a5, .inr (.inl 30)], n, D, s31, p, c32)) rfl ?_
      refine tt_cl (by omega) rfl (k_type (Zi := Zi) (D := D) (s := s31) (p := p) (c := c32) (by omega) hS31 hC32 a5 (by omega) (show (s31 3014) ≤ 32764 by omega)) ?_
      rintro _ _ ⟨s39, c40, rfl, rfl, hS39, hC40, f41, g42, k43⟩
      show tt Zi d 180 (57, [some (.inr (.inl 30)), some (.inl a1), some (.inl a2), some (.inl a3), some (.inl a4), some (.inl a5)], [], n, D, s39, p, c40) _
      replace k43 : (s39 3014) = (s31 3014) + 4 := k43
      have b44 : 0 ≤ (s39 3014) ∧ (s39 3014) ≤ 32768 := hS39 3014
      have e45 : s39 3000 = (s31 3000) := (f41 3000 (by decide))
      have b46 : 0 ≤ (s39 3000) ∧ (s39 3000) ≤ 2 := hS39 3000
      refine tt_k 2 (S' := (61, [some (.inr (.inl 30)), some (.inl a1), some (.inl a2), some (.inl a3), some (.inl a4), some (.inl a5)], [.inl (s39 3014)], n, D, s39, p, c40)) rfl ?_
      exact tt_rti rfl rfl ⟨s39, c40, (s39 3014), rfl, rfl, hS39, hC40, (fr_tr (fr_tr (fr_tr (fr_tr (fr_tr (fr_us (by decide) fr_rf) f9 (by decide)) f17 (by decide)) f25 (by decide)) f33 (by decide)) f41 (by decide)), (frc_tr (frc_tr (frc_tr (frc_tr (frc_tr frc_rf g10 (by decide)) g18 (by decide)) g26 (by decide)) g34 (by decide)) g42 (by decide)), by omega, by show (s39 3000) = if s 3014 + 20 ≤ 32768 then 0 else 1; first | (rw [if_pos (by omega)]; omega) | (rw [if_neg (by omega)]; omega) | rw [if_pos (by omega)] | rw [if_neg (by omega)], by show (s39 3014) = if s 3014 + 20 ≤ 32768 then s 3014 + 20 else s 3014; first | (rw [if_pos (by omega)]; omega) | (rw [if_neg (by omega)]; omega) | rw [if_pos (by omega)] | rw [if_neg (by omega)], by show (s39 3014) = if s 3014 + 20 ≤ 32768 then s 3014 + 20 else 0; first | (rw [if_pos (by omega)]; omega) | (rw [if_neg (by omega)]; omega) | rw [if_pos (by omega)] | rw [if_neg (by omega)]⟩
    · show tt Zi d 180 (28, [some (.inr (.inl 30)), some (.inl a1), some (.inl a2), some (.inl a3), some (.inl a4), some (.inl a5)], [], n, D, (us s 3000 j2), p, c) _
      refine tt_k 1 (S' := (29, [some (.inr (.inl 30)), some (.inl a1), some (.inl a2), some (.inl a3), some (.inl a4), some (.inl a5)], [.inl 0], n, D, (us s 3000 j2), p, c)) rfl ?_
      exact tt_rti rfl rfl ⟨(us s 3000 j2), c, 0, rfl, rfl, (bS_us hS (show 0 ≤ j2 ∧ j2 ≤ 2 by omega)), hC, (fr_us (by decide) fr_rf), frc_rf, by omega, by show j2 = if s 3014 + 20 ≤ 32768 then 0 else 1; first | (rw [if_pos (by omega)]; omega) | (rw [if_neg (by omega)]; omega) | rw [if_pos (by omega)] | rw [if_neg (by omega)], by show (s 3014) = if s 3014 + 20 ≤ 32768 then s 3014 + 20 else s 3014; first | (rw [if_pos (by omega)]; omega) | (rw [if_neg (by omega)]; omega) | rw [if_pos (by omega)] | rw [if_neg (by omega)], by show 0 = if s 3014 + 20 ≤ 32768 then s 3014 + 20 else 0; first | (rw [if_pos (by omega)]; omega) | (rw [if_neg (by omega)]; omega) | rw [if_pos (by omega)] | rw [if_neg (by omega)]⟩
  refine tb_le (x := ((s 3014) + 20)) (y := 32768) rfl rfl (by omega) (fun h47 => ?_) (fun h47 => ?_)
  · show tt Zi d 180 (17, [some (.inr (.inl 30)), some (.inl a1), some (.inl a2), some (.inl a3), some (.inl a4), some (.inl a5)], [.inr (.inl 30)], n, D, s, p, c) _
    refine tt_k 1 (S' := (18, [some (.inr (.inl 30)), some (.inl a1), some (.inl a2), some (.inl a3), some (.inl a4), some (.inl a5)], [.inl 0, .inr (.inl 30)], n, D, s, p, c)) rfl ?_
    exact K3 0  (by omega) (Or.inl ⟨h47, rfl⟩)
  · show tt Zi d 180 (13, [some (.inr (.inl 30)), some (.inl a1), some (.inl a2), some (.inl a3), some (.inl a4), some (.inl a5)], [.inr (.inl 30)], n, D, s, p, c) _
    refine tt_k 2 (S' := (18, [some (.inr (.inl 30)), some (.inl a1), some (.inl a2), some (.inl a3), some (.inl a4), some (.inl a5)], [.inl 1, .inr (.inl 30)], n, D, s, p, c)) rfl ?_
    exact K3 1  (by omega) (Or.inr (⟨h47, rfl⟩))
set_option maxRecDepth 100000 in
set_option maxHeartbeats 4000000 in
theorem k_turn3_L29 {Zi : Nat → Option (Nat × (Nat → Int))} {d n : Nat} {D : Nat → Nat × Nat} {s : Nat → Int} {p : Nat → Nat} {c : Nat → Nat → Int}  {Q : mi_Rs → mi_H → Prop} (hd : 0 ≤ d) (hS : bS s) (hC : bC D c) (hq0 : s 3016 ≤ 32768)
  (hK : ∀ (k : Int) (c0 : Nat → Nat → Int) (b_k : 0 ≤ k ∧ k ≤ 32768) (hC0 : bC D c0) (hG0 : frc c c0 [34]), (s 3016 ≤ k) → tt Zi d 184 (55, [some (.inr (.inl 30)), some (.inl k)], [], n, D, s, p, c0) Q) :
  ∀ (m : Nat) (k : Int) (c0 : Nat → Nat → Int) (b_k : 0 ≤ k ∧ k ≤ 32768) (hC0 : bC D c0) (hG0 : frc c c0 [34]), (s 3016 - k).toNat < m → tt Zi d 184 (29, [some (.inr (.inl 30)), some (.inl k)], [], n, D, s, p, c0) Q := by
  intro m
  induction m with
  | zero => intro k c0 b_k hC0 hG0 hm; exact absurd hm (by omega)
  | succ m ih =>
    intro k c0 b_k hC0 hG0 hm
    refine tt_k 3 (S' := (34, [some (.inr (.inl 30)), some (.inl k)], [.inl (s 3016), .inl k], n, D, s, p, c0)) rfl ?_
    have b1 : 0 ≤ (s 3016) ∧ (s 3016) ≤ 65536 := hS 3016
    refine tb_ge (x := k) (y := (s 3016)) rfl rfl (by omega) (fun h2 => ?_) (fun h2 => ?_)
    · show tt Zi d 184 (55, [some (.inr (.inl 30)), some (.inl k)], [], n, D, s, p, c0) _
      exact hK k c0 (by omega) hC0 hG0 (by omega)
    · show tt Zi d 184 (37, [some (.inr (.inl 30)), some (.inl k)], [], n, D, s, p, c0) _
      refine tt_k 6 (S' := (47, [some (.inr (.inl 30)), some (.inl k)], [.inl k, .inr (.inl 35), .inl k, .inr (.inl 34)], n, D, s, p, c0)) rfl ?_
      refine tt_bldv (i := k) (v := (c0 35 (k).toNat)) rfl rfl (by omega) rfl ?_
      show tt Zi d 184 (48, [some (.inr (.inl 30)), some (.inl k)], [.inl (c0 35 (k).toNat), .inl k, .inr (.inl 34)], n, D, s, p, c0) _
      have b3 : -128 ≤ (c0 35 (k).toNat) ∧ (c0 35 (k).toNat) ≤ 127 := hC0 35 _
      refine tt_bst (i := k) (x := (c0 35 (k).toNat)) rfl rfl (by omega) ?_
      show tt Zi d 184 (49, [some (.inr (.inl 30)), some (.inl k)], [], n, D, s, p, (uc c0 34 (ua (c0 34) (k).toNat (mi_nb (c0 35 (k).toNat))))) _
      refine tt_k 2 (S' := (29, [some (.inr (.inl 30)), some (.inl (k + 1))], [], n, D, s, p, (uc c0 34 (ua (c0 34) (k).toNat (mi_nb (c0 35 (k).toNat)))))) rfl ?_
      exact ih (k + 1) (uc c0 34 (ua (c0 34) (k).toNat (mi_nb (c0 35 (k).toNat)))) (by omega) (bC_st hC0 (mi_nb_bd _)) (frc_uc (by decide) hG0) (show (s 3016 - (k + 1)).toNat < m by omega)
set_option maxRecDepth 100000 in
set_option maxHeartbeats 4000000 in
theorem k_turn3 {Zi : Nat → Option (Nat × (Nat → Int))} {d n : Nat} {D : Nat → Nat × Nat} {s : Nat → Int} {p : Nat → Nat} {c : Nat → Nat → Int} (hd : 0 ≤ d) (hS : bS s) (hC : bC D c)  : tt Zi d 184 (0, [some (.inr (.inl 30)), none], [], n, D, s, p, c) (fun R H => ∃ (s' : Nat → Int) (c' : Nat → Nat → Int) (r : Int), R = .inl (some (.inl r)) ∧ H = (n, D, s', p, c') ∧ bS s' ∧ bC D c' ∧ fr s s' [3000, 3014] ∧ frc c c' [34] ∧ (0 ≤ r ∧ r ≤ 32768) ∧ (s' 3000 = if s 3016 ≤ 32768 then 0 else 1) ∧ (s' 3014 = if s 3016 ≤ 32768 then s 3016 else s 3014) ∧ (r = if s 3016 ≤ 32768 then s 3016 else 0)) := by
  refine tt_k 4 (S' := (7, [some (.inr (.inl 30)), none], [.inl 32768, .inl (s 3016), .inr (.inl 30)], n, D, s, p, c)) rfl ?_
  have b1 : 0 ≤ (s 3016) ∧ (s 3016) ≤ 65536 := hS 3016
  have K3 : ∀ (j2 : Int) , (0 ≤ j2 ∧ j2 ≤ 1) → (((s 3016) ≤ 32768 ∧ j2 = 0) ∨ (32768 < (s 3016) ∧ j2 = 1)) → tt Zi d 184 (15, [some (.inr (.inl 30)), none], [.inl j2, .inr (.inl 30)], n, D, s, p, c) (fun R H => ∃ (s' : Nat → Int) (c' : Nat → Nat → Int) (r : Int), R = .inl (some (.inl r)) ∧ H = (n, D, s', p, c') ∧ bS s' ∧ bC D c' ∧ fr s s' [3000, 3014] ∧ frc c c' [34] ∧ (0 ≤ r ∧ r ≤ 32768) ∧ (s' 3000 = if s 3016 ≤ 32768 then 0 else 1) ∧ (s' 3014 = if s 3016 ≤ 32768 then s 3016 else s 3014) ∧ (r = if s 3016 ≤ 32768 then s 3016 else 0)) := by
    intro j2 b5 hj4
    refine tt_k 3 (S' := (22, [some (.inr (.inl 30)), none], [.inl j2], n, D, (us s 3000 j2), p, c)) rfl ?_
    refine tz_le (x := j2) rfl rfl (by omega) (fun h6 => ?_) (fun h6 => ?_)
    · show tt Zi d 184 (27, [some (.inr (.inl 30)), none], [], n, D, (us s 3000 j2), p, c) _
      refine tt_k 2 (S' := (29, [some (.inr (.inl 30)), some (.inl 0)], [], n, D, (us s 3000 j2), p, c)) rfl ?_
      refine k_turn3_L29 (Zi := Zi) (D := D) (s := (us s 3000 j2)) (p := p) (c := c) hd (bS_us hS (show 0 ≤ j2 ∧ j2 ≤ 2 by omega)) hC   (show (s 3016) ≤ 32768 by omega) ?_ _ 0 c (by omega) hC frc_rf (Nat.lt_succ_self _)
      intro x7 c8 b9 hC8 g10 hx11
      show tt Zi d 184 (55, [some (.inr (.inl 30)), some (.inl x7)], [], n, D, (us s 3000 j2), p, c8) _
      refine tt_k 6 (S' := (67, [some (.inr (.inl 30)), some (.inl x7)], [.inl (s 3016)], n, D, (us (us s 3000 j2) 3014 (s 3016)), p, c8)) rfl ?_
      exact tt_rti rfl rfl ⟨(us (us s 3000 j2) 3014 (s 3016)), c8, (s 3016), rfl, rfl, (bS_us (bS_us hS (show 0 ≤ j2 ∧ j2 ≤ 2 by omega)) (show 0 ≤ (s 3016) ∧ (s 3016) ≤ 32768 by omega)), hC8, (fr_us (by decide) (fr_us (by decide) fr_rf)), (frc_tr frc_rf g10 (by decide)), by omega, by show j2 = if s 3016 ≤ 32768 then 0 else 1; first | (rw [if_pos (by omega)]; omega) | (rw [if_neg (by omega)]; omega) | rw [if_pos (by omega)] | rw [if_neg (by omega)], by show (s 3016) = if s 3016 ≤ 32768 then s 3016 else s 3014; first | (rw [if_pos (by omega)]; omega) | (rw [if_neg (by omega)]; omega) | rw [if_pos (by omega)] | rw [if_neg (by omega)], by show (s 3016) = if s 3016 ≤ 32768 then s 3016 else 0; first | (rw [if_pos (by omega)]; omega) | (rw [if_neg (by omega)]; omega) | rw [if_pos (by omega)] | rw [if_neg (by omega)]⟩
    · show tt Zi d 184 (25, [some (.inr (.inl 30)), none], [], n, D, (us s 3000 j2), p, c) _
      refine tt_k 1 (S' := (26, [some (.inr (.inl 30)), none], [.inl 0], n, D, (us s 3000 j2), p, c)) rfl ?_
      exact tt_rti rfl rfl ⟨(us s 3000 j2), c, 0, rfl, rfl, (bS_us hS (show 0 ≤ j2 ∧ j2 ≤ 2 by omega)), hC, (fr_us (by decide) fr_rf), frc_rf, by omega, by show j2 = if s 3016 ≤ 32768 then 0 else 1; first | (rw [if_pos (by omega)]; omega) | (rw [if_neg (by omega)]; omega) | rw [if_pos (by omega)] | rw [if_neg (by omega)], by show (s 3014) = if s 3016 ≤ 32768 then s 3016 else s 3014; first | (rw [if_pos (by omega)]; omega) | (rw [if_neg (by omega)]; omega) | rw [if_pos (by omega)] | rw [if_neg (by omega)], by show 0 = if s 3016 ≤ 32768 then s 3016 else 0; first | (rw [if_pos (by omega)]; omega) | (rw [if_neg (by omega)]; omega) | rw [if_pos (by omega)] | rw [if_neg (by omega)]⟩
  refine tb_le (x := (s 3016)) (y := 32768) rfl rfl (by omega) (fun h12 => ?_) (fun h12 => ?_)
  · show tt Zi d 184 (14, [some (.inr (.inl 30)), none], [.inr (.inl 30)], n, D, s, p, c) _
    refine tt_k 1 (S' := (15, [some (.inr (.inl 30)), none], [.inl 0, .inr (.inl 30)], n, D, s, p, c)) rfl ?_
    exact K3 0  (by omega) (Or.inl ⟨h12, rfl⟩)
  · show tt Zi d 184 (10, [some (.inr (.inl 30)), none], [.inr (.inl 30)], n, D, s, p, c) _
    refine tt_k 2 (S' := (15, [some (.inr (.inl 30)), none], [.inl 1, .inr (.inl 30)], n, D, s, p, c)) rfl ?_
    exact K3 1  (by omega) (Or.inr (⟨h12, rfl⟩))
set_option maxRecDepth 100000 in
set_option maxHeartbeats 4000000 in
theorem k_change3 {Zi : Nat → Option (Nat × (Nat → Int))} {d n : Nat} {D : Nat → Nat × Nat} {s : Nat → Int} {p : Nat → Nat} {c : Nat → Nat → Int} (hd : 0 ≤ d) (hS : bS s) (hC : bC D c) (i : Int) (y : Int) (b_i : -2147483648 ≤ i ∧ i ≤ 2147483647) (b_y : -2147483648 ≤ y ∧ y ≤ 2147483647) : tt Zi d 183 (0, [some (.inr (.inl 30)), some (.inl i), some (.inl y)], [], n, D, s, p, c) (fun R H => ∃ (s' : Nat → Int) (c' : Nat → Nat → Int) (r : Int), R = .inl (some (.inl r)) ∧ H = (n, D, s', p, c') ∧ bS s' ∧ bC D c' ∧ fr s s' [3000] ∧ frc c c' [34] ∧ (0 ≤ r ∧ r ≤ 255) ∧ (s' 3000 = if 0 ≤ i ∧ i < s 3014 then (if 0 ≤ y ∧ y ≤ 255 then 0 else 2) else 1)) := by
  refine tt_k 2 (S' := (2, [some (.inr (.inl 30)), some (.inl i), some (.inl y)], [.inl i, .inr (.inl 30)], n, D, s, p, c)) rfl ?_
  have K2 : ∀ (j1 : Int) , (0 ≤ j1 ∧ j1 ≤ 2) → ((i < 0 ∧ j1 = 1) ∨ (0 ≤ i ∧ i < (s 3014) ∧ y < 0 ∧ j1 = 2) ∨ (0 ≤ i ∧ i < (s 3014) ∧ 0 ≤ y ∧ y ≤ 255 ∧ j1 = 0) ∨ (0 ≤ i ∧ i < (s 3014) ∧ 0 ≤ y ∧ 255 < y ∧ j1 = 2) ∨ (0 ≤ i ∧ (s 3014) ≤ i ∧ j1 = 1)) → tt Zi d 183 (33, [some (.inr (.inl 30)), some (.inl i), some (.inl y)], [.inl j1, .inr (.inl 30)], n, D, s, p, c) (fun R H => ∃ (s' : Nat → Int) (c' : Nat → Nat → Int) (r : Int), R = .inl (some (.inl r)) ∧ H = (n, D, s', p, c') ∧ bS s' ∧ bC D c' ∧ fr s s' [3000] ∧ frc c c' [34] ∧ (0 ≤ r ∧ r ≤ 255) ∧ (s' 3000 = if 0 ≤ i ∧ i < s 3014 then (if 0 ≤ y ∧ y ≤ 255 then 0 else 2) else 1)) := by
    intro j1 b4 hj3
    have b5 : 0 ≤ (s 3014) ∧ (s 3014) ≤ 32768 := hS 3014
    refine tt_k 3 (S' := (40, [some (.inr (.inl 30)), some (.inl i), some (.inl y)], [.inl j1], n, D, (us s 3000 j1), p, c)) rfl ?_
    refine tz_le (x := j1) rfl rfl (by omega) (fun h6 => ?_) (fun h6 => ?_)
    · show tt Zi d 183 (45, [some (.inr (.inl 30)), some (.inl i), some (.inl y)], [], n, D, (us s 3000 j1), p, c) _
      refine tt_k 6 (S' := (55, [some (.inr (.inl 30)), some (.inl i), some (.inl y)], [.inl i, .inr (.inl 34), .inl i, .inr (.inl 34)], n, D, (us s 3000 j1), p, c)) rfl ?_
      refine tt_bldv (i := i) (v := (c 34 (i).toNat)) rfl rfl (by omega) rfl ?_
      show tt Zi d 183 (56, [some (.inr (.inl 30)), some (.inl i), some (.inl y)], [.inl (c 34 (i).toNat), .inl i, .inr (.inl 34)], n, D, (us s 3000 j1), p, c) _
      have b7 : -128 ≤ (c 34 (i).toNat) ∧ (c 34 (i).toNat) ≤ 127 := hC 34 _
      refine tt_k 3 (S' := (59, [some (.inr (.inl 30)), some (.inl i), some (.inl y)], [.inl ((mi_i2b (mi_xor (c 34 (i).toNat) y))), .inl i, .inr (.inl 34)], n, D, (us s 3000 j1), p, c)) rfl ?_
      have e8 := mi_xor_bd (c 34 (i).toNat) y
      have e9 := mi_i2b_bd ((mi_xor (c 34 (i).toNat) y))
      refine tt_bst (i := i) (x := (mi_i2b (mi_xor (c 34 (i).toNat) y))) rfl rfl (by omega) ?_
      show tt Zi d 183 (60, [some (.inr (.inl 30)), some (.inl i), some (.inl y)], [], n, D, (us s 3000 j1), p, (uc c 34 (ua (c 34) (i).toNat (mi_nb ((mi_i2b (mi_xor (c 34 (i).toNat) y))))))) _
      refine tt_k 3 (S' := (65, [some (.inr (.inl 30)), some (.inl i), some (.inl y)], [.inl i, .inr (.inl 34)], n, D, (us s 3000 j1), p, (uc c 34 (ua (c 34) (i).toNat (mi_nb ((mi_i2b (mi_xor (c 34 (i).toNat) y)))))))) rfl ?_
      refine tt_bldv (i := i) (v := (mi_nb (mi_i2b (mi_xor (c 34 (i).toNat) y)))) rfl rfl (by omega) ua_eq ?_
      show tt Zi d 183 (66, [some (.inr (.inl 30)), some (.inl i), some (.inl y)], [.inl ((mi_nb (mi_i2b (mi_xor (c 34 (i).toNat) y))))], n, D, (us s 3000 j1), p, (uc c 34 (ua (c 34) (i).toNat (mi_nb ((mi_i2b (mi_xor (c 34 (i).toNat) y))))))) _
      refine tt_k 2 (S' := (70, [some (.inr (.inl 30)), some (.inl i), some (.inl y)], [.inl ((mi_and (mi_nb (mi_i2b (mi_xor (c 34 (i).toNat) y))) 255))], n, D, (us s 3000 j1), p, (uc c 34 (ua (c 34) (i).toNat (mi_nb ((mi_i2b (mi_xor (c 34 (i).toNat) y)))))))) rfl ?_
      have e10 := mi_and255 ((mi_nb (mi_i2b (mi_xor (c 34 (i).toNat) y))))
      exact tt_rti rfl rfl ⟨(us s 3000 j1), (uc c 34 (ua (c 34) (i).toNat (mi_nb ((mi_i2b (mi_xor (c 34 (i).toNat) y)))))), (mi_and (mi_nb (mi_i2b (mi_xor (c 34 (i).toNat) y))) 255), rfl, rfl, (bS_us hS (show 0 ≤ j1 ∧ j1 ≤ 2 by omega)), (bC_st hC (mi_nb_bd _)), (fr_us (by decide) fr_rf), (frc_uc (by decide) frc_rf), by omega, by show j1 = if 0 ≤ i ∧ i < s 3014 then (if 0 ≤ y ∧ y ≤ 255 then 0 else 2) else 1; (try split) <;> (try split) <;> omega⟩
    · show tt Zi d 183 (43, [some (.inr (.inl 30)), some (.inl i), some (.inl y)], [], n, D, (us s 3000 j1), p, c) _
      refine tt_k 1 (S' := (44, [some (.inr (.inl 30)), some (.inl i), some (.inl y)], [.inl 0], n, D, (us s 3000 j1), p, c)) rfl ?_
      exact tt_rti rfl rfl ⟨(us s 3000 j1), c, 0, rfl, rfl, (bS_us hS (show 0 ≤ j1 ∧ j1 ≤ 2 by omega)), hC, (fr_us (by decide) fr_rf), frc_rf, by omega, by show j1 = if 0 ≤ i ∧ i < s 3014 then (if 0 ≤ y ∧ y ≤ 255 then 0 else 2) else 1; (try split) <;> (try split) <;> omega⟩
  refine tz_lt (x := i) rfl rfl (by omega) (fun h11 => ?_) (fun h11 => ?_)
  · show tt Zi d 183 (13, [some (.inr (.inl 30)), some (.inl i), some (.inl y)], [.inr (.inl 30)], n, D, s, p, c) _
    refine tt_k 2 (S' := (33, [some (.inr (.inl 30)), some (.inl i), some (.inl y)], [.inl 1, .inr (.inl 30)], n, D, s, p, c)) rfl ?_
    exact K2 1  (by omega) (Or.inl ⟨h11, rfl⟩)
  · show tt Zi d 183 (5, [some (.inr (.inl 30)), some (.inl i), some (.inl y)], [.inr (.inl 30)], n, D, s, p, c) _
    refine tt_k 3 (S' := (10, [some (.inr (.inl 30)), some (.inl i), some (.inl y)], [.inl (s 3014), .inl i, .inr (.inl 30)], n, D, s, p, c)) rfl ?_
    have b12 : 0 ≤ (s 3014) ∧ (s 3014) ≤ 32768 := hS 3014
    refine tb_lt (x := i) (y := (s 3014)) rfl rfl (by omega) (fun h13 => ?_) (fun h13 => ?_)
    · show tt Zi d 183 (17, [some (.inr (.inl 30)), some (.inl i), some (.inl y)], [.inr (.inl 30)], n, D, s, p, c) _
      refine tt_k 1 (S' := (18, [some (.inr (.inl 30)), some (.inl i), some (.inl y)], [.inl y, .inr (.inl 30)], n, D, s, p, c)) rfl ?_
      refine tz_lt (x := y) rfl rfl (by omega) (fun h14 => ?_) (fun h14 => ?_)
      · show tt Zi d 183 (28, [some (.inr (.inl 30)), some (.inl i), some (.inl y)], [.inr (.inl 30)], n, D, s, p, c) _
        refine tt_k 2 (S' := (33, [some (.inr (.inl 30)), some (.inl i), some (.inl y)], [.inl 2, .inr (.inl 30)], n, D, s, p, c)) rfl ?_
        exact K2 2  (by omega) (Or.inr (Or.inl ⟨h11, h13, h14, rfl⟩))
      · show tt Zi d 183 (21, [some (.inr (.inl 30)), some (.inl i), some (.inl y)], [.inr (.inl 30)], n, D, s, p, c) _
        refine tt_k 2 (S' := (25, [some (.inr (.inl 30)), some (.inl i), some (.inl y)], [.inl 255, .inl y, .inr (.inl 30)], n, D, s, p, c)) rfl ?_
        refine tb_le (x := y) (y := 255) rfl rfl (by omega) (fun h15 => ?_) (fun h15 => ?_)
        · show tt Zi d 183 (32, [some (.inr (.inl 30)), some (.inl i), some (.inl y)], [.inr (.inl 30)], n, D, s, p, c) _
          refine tt_k 1 (S' := (33, [some (.inr (.inl 30)), some (.inl i), some (.inl y)], [.inl 0, .inr (.inl 30)], n, D, s, p, c)) rfl ?_
          exact K2 0  (by omega) (Or.inr (Or.inr (Or.inl ⟨h11, h13, h14, h15, rfl⟩)))
        · show tt Zi d 183 (28, [some (.inr (.inl 30)), some (.inl i), some (.inl y)], [.inr (.inl 30)], n, D, s, p, c) _
          refine tt_k 2 (S' := (33, [some (.inr (.inl 30)), some (.inl i), some (.inl y)], [.inl 2, .inr (.inl 30)], n, D, s, p, c)) rfl ?_
          exact K2 2  (by omega) (Or.inr (Or.inr (Or.inr (Or.inl ⟨h11, h13, h14, h15, rfl⟩))))
    · show tt Zi d 183 (13, [some (.inr (.inl 30)), some (.inl i), some (.inl y)], [.inr (.inl 30)], n, D, s, p, c) _
      refine tt_k 2 (S' := (33, [some (.inr (.inl 30)), some (.inl i), some (.inl y)], [.inl 1, .inr (.inl 30)], n, D, s, p, c)) rfl ?_
      exact K2 1  (by omega) (Or.inr (Or.inr (Or.inr (Or.inr (⟨h11, h13, rfl⟩)))))
