/-! the reference's small calls, exactly -/
set_option maxRecDepth 100000 in
set_option maxHeartbeats 4000000 in
theorem k_measures3 {Zi : Nat → Option (Nat × (Nat → Int))} {d n : Nat} {D : Nat → Nat × Nat} {s : Nat → Int} {p : Nat → Nat} {c : Nat → Nat → Int} (hd : 1 ≤ d) (hS : bS s) (hC : bC D c) (a1 : Int) (a2 : Int) (a3 : Int) (a4 : Int) (a5 : Int) (b_a1 : -2147483648 ≤ a1 ∧ a1 ≤ 2147483647) (b_a2 : -2147483648 ≤ a2 ∧ a2 ≤ 2147483647) (b_a3 : -2147483648 ≤ a3 ∧ a3 ≤ 2147483647) (b_a4 : -2147483648 ≤ a4 ∧ a4 ≤ 2147483647) (b_a5 : -2147483648 ≤ a5 ∧ a5 ≤ 2147483647) : tt Zi d 142 (0, [some (.inr (.inl 30)), some (.inl a1), some (.inl a2), some (.inl a3), some (.inl a4), some (.inl a5), none], [], n, D, s, p, c) (fun R H => ∃ (s' : Nat → Int) (c' : Nat → Nat → Int), R = .inl none ∧ H = (n, D, s', p, c') ∧ bS s' ∧ bC D c' ∧ fr s s' [3000] ∧ frc c c' [32] ∧ (s' 3000 = if ((0 ≤ a1 ∧ a1 ≤ 65535) ∧ (0 ≤ a2 ∧ a2 ≤ 65535) ∧ (0 ≤ a3 ∧ a3 ≤ 65535) ∧ (0 ≤ a4 ∧ a4 ≤ 65535) ∧ (0 ≤ a5 ∧ a5 ≤ 65535) ∧ a1 ≤ mi_shl 1 (s 3004) - 1) then 0 else 1) ∧ (if ((0 ≤ a1 ∧ a1 ≤ 65535) ∧ (0 ≤ a2 ∧ a2 ≤ 65535) ∧ (0 ≤ a3 ∧ a3 ≤ 65535) ∧ (0 ≤ a4 ∧ a4 ≤ 65535) ∧ (0 ≤ a5 ∧ a5 ≤ 65535) ∧ a1 ≤ mi_shl 1 (s 3004) - 1) then (c' 32 0 = a1 ∧ c' 32 1 = a2 ∧ c' 32 2 = a3 ∧ c' 32 3 = a4 ∧ c' 32 4 = a5) else c' 32 = c 32)) := by
  have b1 : 2 ≤ (s 3004) ∧ (s 3004) ≤ 16 := hS 3004
  have e2 : 4 ≤ (mi_shl 1 (s 3004)) ∧ (mi_shl 1 (s 3004)) ≤ 65536 := mi_shl1b 2 16 (by omega) (by omega) (by decide)
  refine tt_k 3 (S' := (4, [some (.inr (.inl 30)), some (.inl a1), some (.inl a2), some (.inl a3), some (.inl a4), some (.inl a5), none], [.inl 65535, .inl 0, .inl a1], n, D, s, p, c)) rfl ?_
  refine tt_cl (by omega) rfl (k_isIn (Zi := Zi) (D := D) (s := s) (p := p) (c := c) (by omega) hS hC a1 0 65535 (by omega) (by omega) (by omega)) ?_
  rintro _ _ ⟨r3, rfl, rfl, b4, k5⟩
  show tt Zi d 142 (7, [some (.inr (.inl 30)), some (.inl a1), some (.inl a2), some (.inl a3), some (.inl a4), some (.inl a5), none], [.inl r3], n, D, s, p, c) _
  replace k5 : r3 = if 0 ≤ a1 ∧ a1 ≤ 65535 then (1 : Int) else 0 := k5
  subst k5
  show tt Zi d 142 (7, [some (.inr (.inl 30)), some (.inl a1), some (.inl a2), some (.inl a3), some (.inl a4), some (.inl a5), none], [.inl (if 0 ≤ a1 ∧ a1 ≤ 65535 then (1 : Int) else 0)], n, D, s, p, c) _
  have K7 : ∀ (j6 : Int) , (0 ≤ j6 ∧ j6 ≤ 1) → (((if 0 ≤ a1 ∧ a1 ≤ 65535 then (1 : Int) else 0) = 0 ∧ j6 = 0) ∨ ((if 0 ≤ a1 ∧ a1 ≤ 65535 then (1 : Int) else 0) ≠ 0 ∧ (if 0 ≤ a2 ∧ a2 ≤ 65535 then (1 : Int) else 0) = 0 ∧ j6 = 0) ∨ ((if 0 ≤ a1 ∧ a1 ≤ 65535 then (1 : Int) else 0) ≠ 0 ∧ (if 0 ≤ a2 ∧ a2 ≤ 65535 then (1 : Int) else 0) ≠ 0 ∧ (if 0 ≤ a3 ∧ a3 ≤ 65535 then (1 : Int) else 0) = 0 ∧ j6 = 0) ∨ ((if 0 ≤ a1 ∧ a1 ≤ 65535 then (1 : Int) else 0) ≠ 0 ∧ (if 0 ≤ a2 ∧ a2 ≤ 65535 then (1 : Int) else 0) ≠ 0 ∧ (if 0 ≤ a3 ∧ a3 ≤ 65535 then (1 : Int) else 0) ≠ 0 ∧ (if 0 ≤ a4 ∧ a4 ≤ 65535 then (1 : Int) else 0) = 0 ∧ j6 = 0) ∨ ((if 0 ≤ a1 ∧ a1 ≤ 65535 then (1 : Int) else 0) ≠ 0 ∧ (if 0 ≤ a2 ∧ a2 ≤ 65535 then (1 : Int) else 0) ≠ 0 ∧ (if 0 ≤ a3 ∧ a3 ≤ 65535 then (1 : Int) else 0) ≠ 0 ∧ (if 0 ≤ a4 ∧ a4 ≤ 65535 then (1 : Int) else 0) ≠ 0 ∧ (if 0 ≤ a5 ∧ a5 ≤ 65535 then (1 : Int) else 0) = 0 ∧ j6 = 0) ∨ ((if 0 ≤ a1 ∧ a1 ≤ 65535 then (1 : Int) else 0) ≠ 0 ∧ (if 0 ≤ a2 ∧ a2 ≤ 65535 then (1 : Int) else 0) ≠ 0 ∧ (if 0 ≤ a3 ∧ a3 ≤ 65535 then (1 : Int) else 0) ≠ 0 ∧ (if 0 ≤ a4 ∧ a4 ≤ 65535 then (1 : Int) else 0) ≠ 0 ∧ (if 0 ≤ a5 ∧ a5 ≤ 65535 then (1 : Int) else 0) ≠ 0 ∧ j6 = 1)) → tt Zi d 142 (57, [some (.inr (.inl 30)), some (.inl a1), some (.inl a2), some (.inl a3), some (.inl a4), some (.inl a5), none], [.inl j6], n, D, s, p, c) (fun R H => ∃ (s' : Nat → Int) (c' : Nat → Nat → Int), R = .inl none ∧ H = (n, D, s', p, c') ∧ bS s' ∧ bC D c' ∧ fr s s' [3000] ∧ frc c c' [32] ∧ (s' 3000 = if ((0 ≤ a1 ∧ a1 ≤ 65535) ∧ (0 ≤ a2 ∧ a2 ≤ 65535) ∧ (0 ≤ a3 ∧ a3 ≤ 65535) ∧ (0 ≤ a4 ∧ a4 ≤ 65535) ∧ (0 ≤ a5 ∧ a5 ≤ 65535) ∧ a1 ≤ mi_shl 1 (s 3004) - 1) then 0 else 1) ∧ (if ((0 ≤ a1 ∧ a1 ≤ 65535) ∧ (0 ≤ a2 ∧ a2 ≤ 65535) ∧ (0 ≤ a3 ∧ a3 ≤ 65535) ∧ (0 ≤ a4 ∧ a4 ≤ 65535) ∧ (0 ≤ a5 ∧ a5 ≤ 65535) ∧ a1 ≤ mi_shl 1 (s 3004) - 1) then (c' 32 0 = a1 ∧ c' 32 1 = a2 ∧ c' 32 2 = a3 ∧ c' 32 3 = a4 ∧ c' 32 4 = a5) else c' 32 = c 32)) := by
    intro j6 b9 hj8
    refine tt_k 3 (S' := (62, [some (.inr (.inl 30)), some (.inl a1), some (.inl a2), some (.inl a3), some (.inl a4), some (.inl a5), some (.inl j6)], [.inl j6, .inr (.inl 30)], n, D, s, p, c)) rfl ?_
    have K11 : ∀ (j10 : Int) , (0 ≤ j10 ∧ j10 ≤ 1) → ((j6 = 0 ∧ j10 = 1) ∨ (j6 ≠ 0 ∧ (mi_shl 1 ((s 3004)) - 1) < a1 ∧ j10 = 1) ∨ (j6 ≠ 0 ∧ a1 ≤ (mi_shl 1 ((s 3004)) - 1) ∧ j10 = 0)) → tt Zi d 142 (78, [some (.inr (.inl 30)), some (.inl a1), some (.inl a2), some (.inl a3), some (.inl a4), some (.inl a5), some (.inl j6)], [.inl j10, .inr (.inl 30)], n, D, s, p, c) (fun R H => ∃ (s' : Nat → Int) (c' : Nat → Nat → Int), R = .inl none ∧ H = (n, D, s', p, c') ∧ bS s' ∧ bC D c' ∧ fr s s' [3000] ∧ frc c c' [32] ∧ (s' 3000 = if ((0 ≤ a1 ∧ a1 ≤ 65535) ∧ (0 ≤ a2 ∧ a2 ≤ 65535) ∧ (0 ≤ a3 ∧ a3 ≤ 65535) ∧ (0 ≤ a4 ∧ a4 ≤ 65535) ∧ (0 ≤ a5 ∧ a5 ≤ 65535) ∧ a1 ≤ mi_shl 1 (s 3004) - 1) then 0 else 1) ∧ (if ((0 ≤ a1 ∧ a1 ≤ 65535) ∧ (0 ≤ a2 ∧ a2 ≤ 65535) ∧ (0 ≤ a3 ∧ a3 ≤ 65535) ∧ (0 ≤ a4 ∧ a4 ≤ 65535) ∧ (0 ≤ a5 ∧ a5 ≤ 65535) ∧ a1 ≤ mi_shl 1 (s 3004) - 1) then (c' 32 0 = a1 ∧ c' 32 1 = a2 ∧ c' 32 2 = a3 ∧ c' 32 3 = a4 ∧ c' 32 4 = a5) else c' 32 = c 32)) := by
      intro j10 b13 hj12
      refine tt_k 3 (S' := (85, [some (.inr (.inl 30)), some (.inl a1), some (.inl a2), some (.inl a3), some (.inl a4), some (.inl a5), some (.inl j6)], [.inl j10], n, D, (us s 3000 j10), p, c)) rfl ?_
      refine tz_le (x := j10) rfl rfl (by omega) (fun h14 => ?_) (fun h14 => ?_)
      · show tt Zi d 142 (89, [some (.inr (.inl 30)), some (.inl a1), some (.inl a2), some (.inl a3), some (.inl a4), some (.inl a5), some (.inl j6)], [], n, D, (us s 3000 j10), p, c) _
        refine tt_k 4 (S' := (95, [some (.inr (.inl 30)), some (.inl a1), some (.inl a2), some (.inl a3), some (.inl a4), some (.inl a5), some (.inl j6)], [.inl a1, .inl 0, .inr (.inl 32)], n, D, (us s 3000 j10), p, c)) rfl ?_
        refine tt_ist (i := 0) (x := a1) rfl rfl (by omega) ?_
        show tt Zi d 142 (96, [some (.inr (.inl 30)), some (.inl a1), some (.inl a2), some (.inl a3), some (.inl a4), some (.inl a5), some (.inl j6)], [], n, D, (us s 3000 j10), p, (uc c 32 (ua (c 32) (0 : Int).toNat a1))) _
        refine tt_k 4 (S' := (102, [some (.inr (.inl 30)), some (.inl a1), some (.inl a2), some (.inl a3), some (.inl a4), some (.inl a5), some (.inl j6)], [.inl a2, .inl 1, .inr (.inl 32)], n, D, (us s 3000 j10), p, (uc c 32 (ua (c 32) (0 : Int).toNat a1)))) rfl ?_
        refine tt_ist (i := 1) (x := a2) rfl rfl (by omega) ?_
        show tt Zi d 142 (103, [some (.inr (.inl 30)), some (.inl a1), some (.inl a2), some (.inl a3), some (.inl a4), some (.inl a5), some (.inl j6)], [], n, D, (us s 3000 j10), p, (uc (uc c 32 (ua (c 32) (0 : Int).toNat a1)) 32 (ua (ua (c 32) (0 : Int).toNat a1) (1 : Int).toNat a2))) _
        refine tt_k 4 (S' := (109, [some (.inr (.inl 30)), some (.inl a1), some (.inl a2), some (.inl a3), some (.inl a4), some (.inl a5), some (.inl j6)], [.inl a3, .inl 2, .inr (.inl 32)], n, D, (us s 3000 j10), p, (uc (uc c 32 (ua (c 32) (0 : Int).toNat a1)) 32 (ua (ua (c 32) (0 : Int).toNat a1) (1 : Int).toNat a2)))) rfl ?_
        refine tt_ist (i := 2) (x := a3) rfl rfl (by omega) ?_
        show tt Zi d 142 (110, [some (.inr (.inl 30)), some (.inl a1), some (.inl a2), some (.inl a3), some (.inl a4), some (.inl a5), some (.inl j6)], [], n, D, (us s 3000 j10), p, (uc (uc (uc c 32 (ua (c 32) (0 : Int).toNat a1)) 32 (ua (ua (c 32) (0 : Int).toNat a1) (1 : Int).toNat a2)) 32 (ua (ua (ua (c 32) (0 : Int).toNat a1) (1 : Int).toNat a2) (2 : Int).toNat a3))) _
        refine tt_k 4 (S' := (117, [some (.inr (.inl 30)), some (.inl a1), some (.inl a2), some (.inl a3), some (.inl a4), some (.inl a5), some (.inl j6)], [.inl a4, .inl 3, .inr (.inl 32)], n, D, (us s 3000 j10), p, (uc (uc (uc c 32 (ua (c 32) (0 : Int).toNat a1)) 32 (ua (ua (c 32) (0 : Int).toNat a1) (1 : Int).toNat a2)) 32 (ua (ua (ua (c 32) (0 : Int).toNat a1) (1 : Int).toNat a2) (2 : Int).toNat a3)))) rfl ?_
        refine tt_ist (i := 3) (x := a4) rfl rfl (by omega) ?_
        show tt Zi d 142 (118, [some (.inr (.inl 30)), some (.inl a1), some (.inl a2), some (.inl a3), some (.inl a4), some (.inl a5), some (.inl j6)], [], n, D, (us s 3000 j10), p, (uc (uc (uc (uc c 32 (ua (c 32) (0 : Int).toNat a1)) 32 (ua (ua (c 32) (0 : Int).toNat a1) (1 : Int).toNat a2)) 32 (ua (ua (ua (c 32) (0 : Int).toNat a1) (1 : Int).toNat a2) (2 : Int).toNat a3)) 32 (ua (ua (ua (ua (c 32) (0 : Int).toNat a1) (1 : Int).toNat a2) (2 : Int).toNat a3) (3 : Int).toNat a4))) _
        refine tt_k 4 (S' := (125, [some (.inr (.inl 30)), some (.inl a1), some (.inl a2), some (.inl a3), some (.inl a4), some (.inl a5), some (.inl j6)], [.inl a5, .inl 4, .inr (.inl 32)], n, D, (us s 3000 j10), p, (uc (uc (uc (uc c 32 (ua (c 32) (0 : Int).toNat a1)) 32 (ua (ua (c 32) (0 : Int).toNat a1) (1 : Int).toNat a2)) 32 (ua (ua (ua (c 32) (0 : Int).toNat a1) (1 : Int).toNat a2) (2 : Int).toNat a3)) 32 (ua (ua (ua (ua (c 32) (0 : Int).toNat a1) (1 : Int).toNat a2) (2 : Int).toNat a3) (3 : Int).toNat a4)))) rfl ?_
        refine tt_ist (i := 4) (x := a5) rfl rfl (by omega) ?_
        show tt Zi d 142 (126, [some (.inr (.inl 30)), some (.inl a1), some (.inl a2), some (.inl a3), some (.inl a4), some (.inl a5), some (.inl j6)], [], n, D, (us s 3000 j10), p, (uc (uc (uc (uc (uc c 32 (ua (c 32) (0 : Int).toNat a1)) 32 (ua (ua (c 32) (0 : Int).toNat a1) (1 : Int).toNat a2)) 32 (ua (ua (ua (c 32) (0 : Int).toNat a1) (1 : Int).toNat a2) (2 : Int).toNat a3)) 32 (ua (ua (ua (ua (c 32) (0 : Int).toNat a1) (1 : Int).toNat a2) (2 : Int).toNat a3) (3 : Int).toNat a4)) 32 (ua (ua (ua (ua (ua (c 32) (0 : Int).toNat a1) (1 : Int).toNat a2) (2 : Int).toNat a3) (3 : Int).toNat a4) (4 : Int).toNat a5))) _
        exact tt_rtv rfl rfl ⟨(us s 3000 j10), (uc (uc (uc (uc (uc c 32 (ua (c 32) (0 : Int).toNat a1)) 32 (ua (ua (c 32) (0 : Int).toNat a1) (1 : Int).toNat a2)) 32 (ua (ua (ua (c 32) (0 : Int).toNat a1) (1 : Int).toNat a2) (2 : Int).toNat a3)) 32 (ua (ua (ua (ua (c 32) (0 : Int).toNat a1) (1 : Int).toNat a2) (2 : Int).toNat a3) (3 : Int).toNat a4)) 32 (ua (ua (ua (ua (ua (c 32) (0 : Int).toNat a1) (1 : Int).toNat a2) (2 : Int).toNat a3) (3 : Int).toNat a4) (4 : Int).toNat a5)), rfl, rfl, (bS_us hS (show 0 ≤ j10 ∧ j10 ≤ 2 by omega)), (bC_st (bC_st (bC_st (bC_st (bC_st hC (show 0 ≤ a1 ∧ a1 ≤ 65535 by omega)) (show 0 ≤ a2 ∧ a2 ≤ 65535 by omega)) (show 0 ≤ a3 ∧ a3 ≤ 65535 by omega)) (show 0 ≤ a4 ∧ a4 ≤ 65535 by omega)) (show 0 ≤ a5 ∧ a5 ≤ 65535 by omega)), (fr_us (by decide) fr_rf), (frc_uc (by decide) (frc_uc (by decide) (frc_uc (by decide) (frc_uc (by decide) (frc_uc (by decide) frc_rf))))), by show j10 = if ((0 ≤ a1 ∧ a1 ≤ 65535) ∧ (0 ≤ a2 ∧ a2 ≤ 65535) ∧ (0 ≤ a3 ∧ a3 ≤ 65535) ∧ (0 ≤ a4 ∧ a4 ≤ 65535) ∧ (0 ≤ a5 ∧ a5 ≤ 65535) ∧ a1 ≤ mi_shl 1 (s 3004) - 1) then 0 else 1; first | omega | (split <;> omega) | (split <;> (try split) <;> omega), by show if ((0 ≤ a1 ∧ a1 ≤ 65535) ∧ (0 ≤ a2 ∧ a2 ≤ 65535) ∧ (0 ≤ a3 ∧ a3 ≤ 65535) ∧ (0 ≤ a4 ∧ a4 ≤ 65535) ∧ (0 ≤ a5 ∧ a5 ≤ 65535) ∧ a1 ≤ mi_shl 1 (s 3004) - 1) then ((ua (ua (ua (ua (ua (c 32) (0 : Int).toNat a1) (1 : Int).toNat a2) (2 : Int).toNat a3) (3 : Int).toNat a4) (4 : Int).toNat a5) 0 = a1 ∧ (ua (ua (ua (ua (ua (c 32) (0 : Int).toNat a1) (1 : Int).toNat a2) (2 : Int).toNat a3) (3 : Int).toNat a4) (4 : Int).toNat a5) 1 = a2 ∧ (ua (ua (ua (ua (ua (c 32) (0 : Int).toNat a1) (1 : Int).toNat a2) (2 : Int).toNat a3) (3 : Int).toNat a4) (4 : Int).toNat a5) 2 = a3 ∧ (ua (ua (ua (ua (ua (c 32) (0 : Int).toNat a1) (1 : Int).toNat a2) (2 : Int).toNat a3) (3 : Int).toNat a4) (4 : Int).toNat a5) 3 = a4 ∧ (ua (ua (ua (ua (ua (c 32) (0 : Int).toNat a1) (1 : Int).toNat a2) (2 : Int).toNat a3) (3 : Int).toNat a4) (4 : Int).toNat a5) 4 = a5) else (ua (ua (ua (ua (ua (c 32) (0 : Int).toNat a1) (1 : Int).toNat a2) (2 : Int).toNat a3) (3 : Int).toNat a4) (4 : Int).toNat a5) = c 32; rw [if_pos (by omega)]; exact ⟨rfl, rfl, rfl, rfl, rfl⟩⟩
      · show tt Zi d 142 (88, [some (.inr (.inl 30)), some (.inl a1), some (.inl a2), some (.inl a3), some (.inl a4), some (.inl a5), some (.inl j6)], [], n, D, (us s 3000 j10), p, c) _
        exact tt_rtv rfl rfl ⟨(us s 3000 j10), c, rfl, rfl, (bS_us hS (show 0 ≤ j10 ∧ j10 ≤ 2 by omega)), hC, (fr_us (by decide) fr_rf), frc_rf, by show j10 = if ((0 ≤ a1 ∧ a1 ≤ 65535) ∧ (0 ≤ a2 ∧ a2 ≤ 65535) ∧ (0 ≤ a3 ∧ a3 ≤ 65535) ∧ (0 ≤ a4 ∧ a4 ≤ 65535) ∧ (0 ≤ a5 ∧ a5 ≤ 65535) ∧ a1 ≤ mi_shl 1 (s 3004) - 1) then 0 else 1; first | omega | (split <;> omega) | (split <;> (try split) <;> omega), by show if ((0 ≤ a1 ∧ a1 ≤ 65535) ∧ (0 ≤ a2 ∧ a2 ≤ 65535) ∧ (0 ≤ a3 ∧ a3 ≤ 65535) ∧ (0 ≤ a4 ∧ a4 ≤ 65535) ∧ (0 ≤ a5 ∧ a5 ≤ 65535) ∧ a1 ≤ mi_shl 1 (s 3004) - 1) then ((c 32) 0 = a1 ∧ (c 32) 1 = a2 ∧ (c 32) 2 = a3 ∧ (c 32) 3 = a4 ∧ (c 32) 4 = a5) else (c 32) = c 32; rw [if_neg (by omega)]⟩
    refine tz_eq (x := j6) rfl rfl (by omega) (fun h15 => ?_) (fun h15 => ?_)
    · show tt Zi d 142 (77, [some (.inr (.inl 30)), some (.inl a1), some (.inl a2), some (.inl a3), some (.inl a4), some (.inl a5), some (.inl j6)], [.inr (.inl 30)], n, D, s, p, c) _
      refine tt_k 1 (S' := (78, [some (.inr (.inl 30)), some (.inl a1), some (.inl a2), some (.inl a3), some (.inl a4), some (.inl a5), some (.inl j6)], [.inl 1, .inr (.inl 30)], n, D, s, p, c)) rfl ?_
      exact K11 1  (by omega) (Or.inl ⟨h15, rfl⟩)
    · show tt Zi d 142 (65, [some (.inr (.inl 30)), some (.inl a1), some (.inl a2), some (.inl a3), some (.inl a4), some (.inl a5), some (.inl j6)], [.inr (.inl 30)], n, D, s, p, c) _
      refine tt_k 2 (S' := (67, [some (.inr (.inl 30)), some (.inl a1), some (.inl a2), some (.inl a3), some (.inl a4), some (.inl a5), some (.inl j6)], [.inr (.inl 30), .inl a1, .inr (.inl 30)], n, D, s, p, c)) rfl ?_
      refine tt_cl (by omega) rfl (k_greatest (Zi := Zi) (D := D) (s := s) (p := p) (c := c) (by omega) hS hC ) ?_
      rintro _ _ ⟨r16, rfl, rfl, b17, k18⟩
      show tt Zi d 142 (70, [some (.inr (.inl 30)), some (.inl a1), some (.inl a2), some (.inl a3), some (.inl a4), some (.inl a5), some (.inl j6)], [.inl r16, .inl a1, .inr (.inl 30)], n, D, s, p, c) _
      replace k18 : r16 = mi_shl 1 ((s 3004)) - 1 := k18
      subst k18
      show tt Zi d 142 (70, [some (.inr (.inl 30)), some (.inl a1), some (.inl a2), some (.inl a3), some (.inl a4), some (.inl a5), some (.inl j6)], [.inl ((mi_shl 1 ((s 3004)) - 1)), .inl a1, .inr (.inl 30)], n, D, s, p, c) _
      refine tb_gt (x := a1) (y := (mi_shl 1 ((s 3004)) - 1)) rfl rfl (by omega) (fun h19 => ?_) (fun h19 => ?_)
      · show tt Zi d 142 (77, [some (.inr (.inl 30)), some (.inl a1), some (.inl a2), some (.inl a3), some (.inl a4), some (.inl a5), some (.inl j6)], [.inr (.inl 30)], n, D, s, p, c) _
        refine tt_k 1 (S' := (78, [some (.inr (.inl 30)), some (.inl a1), some (.inl a2), some (.inl a3), some (.inl a4), some (.inl a5), some (.inl j6)], [.inl 1, .inr (.inl 30)], n, D, s, p, c)) rfl ?_
        exact K11 1  (by omega) (Or.inr (Or.inl ⟨h15, h19, rfl⟩))
      · show tt Zi d 142 (73, [some (.inr (.inl 30)), some (.inl a1), some (.inl a2), some (.inl a3), some (.inl a4), some (.inl a5), some (.inl j6)], [.inr (.inl 30)], n, D, s, p, c) _
        refine tt_k 2 (S' := (78, [some (.inr (.inl 30)), some (.inl a1), some (.inl a2), some (.inl a3), some (.inl a4), some (.inl a5), some (.inl j6)], [.inl 0, .inr (.inl 30)], n, D, s, p, c)) rfl ?_
        exact K11 0  (by omega) (Or.inr (Or.inr (⟨h15, h19, rfl⟩)))
  refine tz_eq (x := (if 0 ≤ a1 ∧ a1 ≤ 65535 then (1 : Int) else 0)) rfl rfl (by omega) (fun h20 => ?_) (fun h20 => ?_)
  · show tt Zi d 142 (56, [some (.inr (.inl 30)), some (.inl a1), some (.inl a2), some (.inl a3), some (.inl a4), some (.inl a5), none], [], n, D, s, p, c) _
    refine tt_k 1 (S' := (57, [some (.inr (.inl 30)), some (.inl a1), some (.inl a2), some (.inl a3), some (.inl a4), some (.inl a5), none], [.inl 0], n, D, s, p, c)) rfl ?_
    exact K7 0  (by omega) (Or.inl ⟨h20, rfl⟩)
  · show tt Zi d 142 (10, [some (.inr (.inl 30)), some (.inl a1), some (.inl a2), some (.inl a3), some (.inl a4), some (.inl a5), none], [], n, D, s, p, c) _
    refine tt_k 3 (S' := (14, [some (.inr (.inl 30)), some (.inl a1), some (.inl a2), some (.inl a3), some (.inl a4), some (.inl a5), none], [.inl 65535, .inl 0, .inl a2], n, D, s, p, c)) rfl ?_
    refine tt_cl (by omega) rfl (k_isIn (Zi := Zi) (D := D) (s := s) (p := p) (c := c) (by omega) hS hC a2 0 65535 (by omega) (by omega) (by omega)) ?_
    rintro _ _ ⟨r21, rfl, rfl, b22, k23⟩
    show tt Zi d 142 (17, [some (.inr (.inl 30)), some (.inl a1), some (.inl a2), some (.inl a3), some (.inl a4), some (.inl a5), none], [.inl r21], n, D, s, p, c) _
    replace k23 : r21 = if 0 ≤ a2 ∧ a2 ≤ 65535 then (1 : Int) else 0 := k23
    subst k23
    show tt Zi d 142 (17, [some (.inr (.inl 30)), some (.inl a1), some (.inl a2), some (.inl a3), some (.inl a4), some (.inl a5), none], [.inl (if 0 ≤ a2 ∧ a2 ≤ 65535 then (1 : Int) else 0)], n, D, s, p, c) _
    refine tz_eq (x := (if 0 ≤ a2 ∧ a2 ≤ 65535 then (1 : Int) else 0)) rfl rfl (by omega) (fun h24 => ?_) (fun h24 => ?_)
    · show tt Zi d 142 (56, [some (.inr (.inl 30)), some (.inl a1), some (.inl a2), some (.inl a3), some (.inl a4), some (.inl a5), none], [], n, D, s, p, c) _
      refine tt_k 1 (S' := (57, [some (.inr (.inl 30)), some (.inl a1), some (.inl a2), some (.inl a3), some (.inl a4), some (.inl a5), none], [.inl 0], n, D, s, p, c)) rfl ?_
      exact K7 0  (by omega) (Or.inr (Or.inl ⟨h20, h24, rfl⟩))
    · show tt Zi d 142 (20, [some (.inr (.inl 30)), some (.inl a1), some (.inl a2), some (.inl a3), some (.inl a4), some (.inl a5), none], [], n, D, s, p, c) _
      refine tt_k 3 (S' := (24, [some (.inr (.inl 30)), some (.inl a1), some (.inl a2), some (.inl a3), some (.inl a4), some (.inl a5), none], [.inl 65535, .inl 0, .inl a3], n, D, s, p, c)) rfl ?_
      refine tt_cl (by omega) rfl (k_isIn (Zi := Zi) (D := D) (s := s) (p := p) (c := c) (by omega) hS hC a3 0 65535 (by omega) (by omega) (by omega)) ?_
      rintro _ _ ⟨r25, rfl, rfl, b26, k27⟩
      show tt Zi d 142 (27, [some (.inr (.inl 30)), some (.inl a1), some (.inl a2), some (.inl a3), some (.inl a4), some (.inl a5), none], [.inl r25], n, D, s, p, c) _
      replace k27 : r25 = if 0 ≤ a3 ∧ a3 ≤ 65535 then (1 : Int) else 0 := k27
      subst k27
      show tt Zi d 142 (27, [some (.inr (.inl 30)), some (.inl a1), some (.inl a2), some (.inl a3), some (.inl a4), some (.inl a5), none], [.inl (if 0 ≤ a3 ∧ a3 ≤ 65535 then (1 : Int) else 0)], n, D, s, p, c) _
      refine tz_eq (x := (if 0 ≤ a3 ∧ a3 ≤ 65535 then (1 : Int) else 0)) rfl rfl (by omega) (fun h28 => ?_) (fun h28 => ?_)
      · show tt Zi d 142 (56, [some (.inr (.inl 30)), some (.inl a1), some (.inl a2), some (.inl a3), some (.inl a4), some (.inl a5), none], [], n, D, s, p, c) _
        refine tt_k 1 (S' := (57, [some (.inr (.inl 30)), some (.inl a1), some (.inl a2), some (.inl a3), some (.inl a4), some (.inl a5), none], [.inl 0], n, D, s, p, c)) rfl ?_
        exact K7 0  (by omega) (Or.inr (Or.inr (Or.inl ⟨h20, h24, h28, rfl⟩)))
      · show tt Zi d 142 (30, [some (.inr (.inl 30)), some (.inl a1), some (.inl a2), some (.inl a3), some (.inl a4), some (.inl a5), none], [], n, D, s, p, c) _
        refine tt_k 3 (S' := (35, [some (.inr (.inl 30)), some (.inl a1), some (.inl a2), some (.inl a3), some (.inl a4), some (.inl a5), none], [.inl 65535, .inl 0, .inl a4], n, D, s, p, c)) rfl ?_
        refine tt_cl (by omega) rfl (k_isIn (Zi := Zi) (D := D) (s := s) (p := p) (c := c) (by omega) hS hC a4 0 65535 (by omega) (by omega) (by omega)) ?_
        rintro _ _ ⟨r29, rfl, rfl, b30, k31⟩
        show tt Zi d 142 (38, [some (.inr (.inl 30)), some (.inl a1), some (.inl a2), some (.inl a3), some (.inl a4), some (.inl a5), none], [.inl r29], n, D, s, p, c) _
        replace k31 : r29 = if 0 ≤ a4 ∧ a4 ≤ 65535 then (1 : Int) else 0 := k31
        subst k31
        show tt Zi d 142 (38, [some (.inr (.inl 30)), some (.inl a1), some (.inl a2), some (.inl a3), some (.inl a4), some (.inl a5), none], [.inl (if 0 ≤ a4 ∧ a4 ≤ 65535 then (1 : Int) else 0)], n, D, s, p, c) _
        refine tz_eq (x := (if 0 ≤ a4 ∧ a4 ≤ 65535 then (1 : Int) else 0)) rfl rfl (by omega) (fun h32 => ?_) (fun h32 => ?_)
        · show tt Zi d 142 (56, [some (.inr (.inl 30)), some (.inl a1), some (.inl a2), some (.inl a3), some (.inl a4), some (.inl a5), none], [], n, D, s, p, c) _
          refine tt_k 1 (S' := (57, [some (.inr (.inl 30)), some (.inl a1), some (.inl a2), some (.inl a3), some (.inl a4), some (.inl a5), none], [.inl 0], n, D, s, p, c)) rfl ?_
          exact K7 0  (by omega) (Or.inr (Or.inr (Or.inr (Or.inl ⟨h20, h24, h28, h32, rfl⟩))))
        · show tt Zi d 142 (41, [some (.inr (.inl 30)), some (.inl a1), some (.inl a2), some (.inl a3), some (.inl a4), some (.inl a5), none], [], n, D, s, p, c) _
          refine tt_k 3 (S' := (46, [some (.inr (.inl 30)), some (.inl a1), some (.inl a2), some (.inl a3), some (.inl a4), some (.inl a5), none], [.inl 65535, .inl 0, .inl a5], n, D, s, p, c)) rfl ?_
          refine tt_cl (by omega) rfl (k_isIn (Zi := Zi) (D := D) (s := s) (p := p) (c := c) (by omega) hS hC a5 0 65535 (by omega) (by omega) (by omega)) ?_
          rintro _ _ ⟨r33, rfl, rfl, b34, k35⟩
          show tt Zi d 142 (49, [some (.inr (.inl 30)), some (.inl a1), some (.inl a2), some (.inl a3), some (.inl a4), some (.inl a5), none], [.inl r33], n, D, s, p, c) _
          replace k35 : r33 = if 0 ≤ a5 ∧ a5 ≤ 65535 then (1 : Int) else 0 := k35
          subst k35
          show tt Zi d 142 (49, [some (.inr (.inl 30)), some (.inl a1), some (.inl a2), some (.inl a3), some (.inl a4), some (.inl a5), none], [.inl (if 0 ≤ a5 ∧ a5 ≤ 65535 then (1 : Int) else 0)], n, D, s, p, c) _
          refine tz_eq (x := (if 0 ≤ a5 ∧ a5 ≤ 65535 then (1 : Int) else 0)) rfl rfl (by omega) (fun h36 => ?_) (fun h36 => ?_)
          · show tt Zi d 142 (56, [some (.inr (.inl 30)), some (.inl a1), some (.inl a2), some (.inl a3), some (.inl a4), some (.inl a5), none], [], n, D, s, p, c) _
            refine tt_k 1 (S' := (57, [some (.inr (.inl 30)), some (.inl a1), some (.inl a2), some (.inl a3), some (.inl a4), some (.inl a5), none], [.inl 0], n, D, s, p, c)) rfl ?_
            exact K7 0  (by omega) (Or.inr (Or.inr (Or.inr (Or.inr (Or.inl ⟨h20, h24, h28, h32, h36, rfl⟩)))))
          · show tt Zi d 142 (52, [some (.inr (.inl 30)), some (.inl a1), some (.inl a2), some (.inl a3), some (.inl a4), some (.inl a5), none], [], n, D, s, p, c) _
            refine tt_k 2 (S' := (57, [some (.inr (.inl 30)), some (.inl a1), some (.inl a2), some (.inl a3), some (.inl a4), some (.inl a5), none], [.inl 1], n, D, s, p, c)) rfl ?_
            exact K7 1  (by omega) (Or.inr (Or.inr (Or.inr (Or.inr (Or.inr (⟨h20, h24, h28, h32, h36, rfl⟩))))))
set_option maxRecDepth 100000 in
set_option maxHeartbeats 4000000 in
theorem k_out3 {Zi : Nat → Option (Nat × (Nat → Int))} {d n : Nat} {D : Nat → Nat × Nat} {s : Nat → Int} {p : Nat → Nat} {c : Nat → Nat → Int} (hd : 0 ≤ d) (hS : bS s) (hC : bC D c) (i : Int) (b_i : -2147483648 ≤ i ∧ i ≤ 2147483647) : tt Zi d 179 (0, [some (.inr (.inl 30)), some (.inl i)], [], n, D, s, p, c) (fun R H => ∃ (s' : Nat → Int) (r : Int), R = .inl (some (.inl r)) ∧ H = (n, D, s', p, c) ∧ bS s' ∧ fr s s' [3000] ∧ (0 ≤ r ∧ r ≤ 255) ∧ (s' 3000 = if 0 ≤ i ∧ i < s 3016 then 0 else 1) ∧ (r = if 0 ≤ i ∧ i < s 3016 then mi_and (c 35 i.toNat) 255 else 0)) := by
  refine tt_k 2 (S' := (2, [some (.inr (.inl 30)), some (.inl i)], [.inl i, .inr (.inl 30)], n, D, s, p, c)) rfl ?_
  have K2 : ∀ (j1 : Int) , (0 ≤ j1 ∧ j1 ≤ 1) → ((i < 0 ∧ j1 = 1) ∨ (0 ≤ i ∧ i < (s 3016) ∧ j1 = 0) ∨ (0 ≤ i ∧ (s 3016) ≤ i ∧ j1 = 1)) → tt Zi d 179 (18, [some (.inr (.inl 30)), some (.inl i)], [.inl j1, .inr (.inl 30)], n, D, s, p, c) (fun R H => ∃ (s' : Nat → Int) (r : Int), R = .inl (some (.inl r)) ∧ H = (n, D, s', p, c) ∧ bS s' ∧ fr s s' [3000] ∧ (0 ≤ r ∧ r ≤ 255) ∧ (s' 3000 = if 0 ≤ i ∧ i < s 3016 then 0 else 1) ∧ (r = if 0 ≤ i ∧ i < s 3016 then mi_and (c 35 i.toNat) 255 else 0)) := by
    intro j1 b4 hj3
    have b5 : 0 ≤ (s 3016) ∧ (s 3016) ≤ 65536 := hS 3016
    refine tt_k 3 (S' := (25, [some (.inr (.inl 30)), some (.inl i)], [.inl j1], n, D, (us s 3000 j1), p, c)) rfl ?_
    refine tz_le (x := j1) rfl rfl (by omega) (fun h6 => ?_) (fun h6 => ?_)
    · show tt Zi d 179 (32, [some (.inr (.inl 30)), some (.inl i)], [], n, D, (us s 3000 j1), p, c) _
      refine tt_k 3 (S' := (37, [some (.inr (.inl 30)), some (.inl i)], [.inl i, .inr (.inl 35)], n, D, (us s 3000 j1), p, c)) rfl ?_
      refine tt_bldv (i := i) (v := (c 35 (i).toNat)) rfl rfl (by omega) rfl ?_
      show tt Zi d 179 (38, [some (.inr (.inl 30)), some (.inl i)], [.inl (c 35 (i).toNat)], n, D, (us s 3000 j1), p, c) _
      have b7 : -128 ≤ (c 35 (i).toNat) ∧ (c 35 (i).toNat) ≤ 127 := hC 35 _
      refine tt_k 2 (S' := (42, [some (.inr (.inl 30)), some (.inl i)], [.inl ((mi_and (c 35 (i).toNat) 255))], n, D, (us s 3000 j1), p, c)) rfl ?_
      have e8 := mi_and255 (c 35 (i).toNat)
      exact tt_rti rfl rfl ⟨(us s 3000 j1), (mi_and (c 35 (i).toNat) 255), rfl, rfl, (bS_us hS (show 0 ≤ j1 ∧ j1 ≤ 2 by omega)), (fr_us (by decide) fr_rf), by omega, by show j1 = if 0 ≤ i ∧ i < s 3016 then 0 else 1; first | omega | (split <;> omega) | (split <;> (try split) <;> omega), by show ((mi_and (c 35 (i).toNat) 255)) = if 0 ≤ i ∧ i < s 3016 then mi_and (c 35 i.toNat) 255 else 0; rw [if_pos (by omega)]⟩
    · show tt Zi d 179 (28, [some (.inr (.inl 30)), some (.inl i)], [], n, D, (us s 3000 j1), p, c) _
      refine tt_k 2 (S' := (42, [some (.inr (.inl 30)), some (.inl i)], [.inl 0], n, D, (us s 3000 j1), p, c)) rfl ?_
      exact tt_rti rfl rfl ⟨(us s 3000 j1), 0, rfl, rfl, (bS_us hS (show 0 ≤ j1 ∧ j1 ≤ 2 by omega)), (fr_us (by decide) fr_rf), by omega, by show j1 = if 0 ≤ i ∧ i < s 3016 then 0 else 1; first | omega | (split <;> omega) | (split <;> (try split) <;> omega), by show 0 = if 0 ≤ i ∧ i < s 3016 then mi_and (c 35 i.toNat) 255 else 0; rw [if_neg (by omega)]⟩
  refine tz_lt (x := i) rfl rfl (by omega) (fun h9 => ?_) (fun h9 => ?_)
  · show tt Zi d 179 (13, [some (.inr (.inl 30)), some (.inl i)], [.inr (.inl 30)], n, D, s, p, c) _
    refine tt_k 2 (S' := (18, [some (.inr (.inl 30)), some (.inl i)], [.inl 1, .inr (.inl 30)], n, D, s, p, c)) rfl ?_
    exact K2 1  (by omega) (Or.inl ⟨h9, rfl⟩)
  · show tt Zi d 179 (5, [some (.inr (.inl 30)), some (.inl i)], [.inr (.inl 30)], n, D, s, p, c) _
    refine tt_k 3 (S' := (10, [some (.inr (.inl 30)), some (.inl i)], [.inl (s 3016), .inl i, .inr (.inl 30)], n, D, s, p, c)) rfl ?_
    have b10 : 0 ≤ (s 3016) ∧ (s 3016) ≤ 65536 := hS 3016
    refine tb_lt (x := i) (y := (s 3016)) rfl rfl (by omega) (fun h11 => ?_) (fun h11 => ?_)
    · show tt Zi d 179 (17, [some (.inr (.inl 30)), some (.inl i)], [.inr (.inl 30)], n, D, s, p, c) _
      refine tt_k 1 (S' := (18, [some (.inr (.inl 30)), some (.inl i)], [.inl 0, .inr (.inl 30)], n, D, s, p, c)) rfl ?_
      exact K2 0  (by omega) (Or.inr (Or.inl ⟨h9, h11, rfl⟩))
    · show tt Zi d 179 (13, [some (.inr (.inl 30)), some (.inl i)], [.inr (.inl 30)], n, D, s, p, c) _
      refine tt_k 2 (S' := (18, [some (.inr (.inl 30)), some (.inl i)], [.inl 1, .inr (.inl 30)], n, D, s, p, c)) rfl ?_
      exact K2 1  (by omega) (Or.inr (Or.inr (⟨h9, h11, rfl⟩)))
