/-! the reference's canvas and measures, with all that they show -/
set_option maxRecDepth 100000 in
set_option maxHeartbeats 4000000 in
theorem k_canvas2_L82 {Zi : Nat → Option (Nat × (Nat → Int))} {d n : Nat} {D : Nat → Nat × Nat} {s : Nat → Int} {p : Nat → Nat} {c : Nat → Nat → Int} {o_1 : Option mi_V} {o_2 : Option mi_V} {o_3 : Option mi_V} {o_4 : Option mi_V} {Q : mi_Rs → mi_H → Prop} (hd : 1 ≤ d) (hS : bS s) (hC : bC D c) 
  (hK : ∀ (k : Int) (c0 : Nat → Nat → Int) (b_k : 0 ≤ k ∧ k ≤ 12288) (hC0 : bC D c0) (hG0 : frc c c0 [31]), (k = 12288) → tt Zi d 135 (106, [some (.inr (.inl 30)), o_1, o_2, o_3, o_4, some (.inl k)], [], n, D, s, p, c0) Q) :
  ∀ (m : Nat) (k : Int) (c0 : Nat → Nat → Int) (b_k : 0 ≤ k ∧ k ≤ 12288) (hC0 : bC D c0) (hG0 : frc c c0 [31]), (12288 - k).toNat < m → tt Zi d 135 (82, [some (.inr (.inl 30)), o_1, o_2, o_3, o_4, some (.inl k)], [], n, D, s, p, c0) Q := by
  intro m
  induction m with
  | zero => intro k c0 b_k hC0 hG0 hm; exact absurd hm (by omega)
  | succ m ih =>
    intro k c0 b_k hC0 hG0 hm
    refine tt_k 4 (S' := (89, [some (.inr (.inl 30)), o_1, o_2, o_3, o_4, some (.inl k)], [.inl 12288, .inl k], n, D, s, p, c0)) rfl ?_
    refine tb_ge (x := k) (y := 12288) rfl rfl (by omega) (fun h1 => ?_) (fun h1 => ?_)
    · show tt Zi d 135 (106, [some (.inr (.inl 30)), o_1, o_2, o_3, o_4, some (.inl k)], [], n, D, s, p, c0) _
      exact hK k c0 (by omega) hC0 hG0 (by omega)
    · show tt Zi d 135 (92, [some (.inr (.inl 30)), o_1, o_2, o_3, o_4, some (.inl k)], [], n, D, s, p, c0) _
      refine tt_k 4 (S' := (99, [some (.inr (.inl 30)), o_1, o_2, o_3, o_4, some (.inl k)], [.inl 0, .inl k, .inr (.inl 31)], n, D, s, p, c0)) rfl ?_
      refine tt_ist (i := k) (x := 0) rfl rfl (by omega) ?_
      show tt Zi d 135 (100, [some (.inr (.inl 30)), o_1, o_2, o_3, o_4, some (.inl k)], [], n, D, s, p, (uc c0 31 (ua (c0 31) (k).toNat 0))) _
      refine tt_k 2 (S' := (82, [some (.inr (.inl 30)), o_1, o_2, o_3, o_4, some (.inl (k + 1))], [], n, D, s, p, (uc c0 31 (ua (c0 31) (k).toNat 0)))) rfl ?_
      exact ih (k + 1) (uc c0 31 (ua (c0 31) (k).toNat 0)) (by omega) (bC_st hC0 (show 0 ≤ 0 ∧ 0 ≤ 65535 by omega)) (frc_uc (by decide) hG0) (show (12288 - (k + 1)).toNat < m by omega)

set_option maxRecDepth 100000 in
set_option maxHeartbeats 4000000 in
theorem k_canvas2_L109 {Zi : Nat → Option (Nat × (Nat → Int))} {d n : Nat} {D : Nat → Nat × Nat} {s : Nat → Int} {p : Nat → Nat} {c : Nat → Nat → Int} {o_1 : Option mi_V} {o_2 : Option mi_V} {o_3 : Option mi_V} {o_4 : Option mi_V} {Q : mi_Rs → mi_H → Prop} (hd : 1 ≤ d) (hS : bS s) (hC : bC D c) 
  (hK : ∀ (k : Int) (c0 : Nat → Nat → Int) (b_k : 0 ≤ k ∧ k ≤ 5) (hC0 : bC D c0) (hG0 : frc c c0 [32]), (k = 5) → tt Zi d 135 (129, [some (.inr (.inl 30)), o_1, o_2, o_3, o_4, some (.inl k)], [], n, D, s, p, c0) Q) :
  ∀ (m : Nat) (k : Int) (c0 : Nat → Nat → Int) (b_k : 0 ≤ k ∧ k ≤ 5) (hC0 : bC D c0) (hG0 : frc c c0 [32]), (5 - k).toNat < m → tt Zi d 135 (109, [some (.inr (.inl 30)), o_1, o_2, o_3, o_4, some (.inl k)], [], n, D, s, p, c0) Q := by
  intro m
  induction m with
  | zero => intro k c0 b_k hC0 hG0 hm; exact absurd hm (by omega)
  | succ m ih =>
    intro k c0 b_k hC0 hG0 hm
    refine tt_k 2 (S' := (112, [some (.inr (.inl 30)), o_1, o_2, o_3, o_4, some (.inl k)], [.inl 5, .inl k], n, D, s, p, c0)) rfl ?_
    refine tb_ge (x := k) (y := 5) rfl rfl (by omega) (fun h1 => ?_) (fun h1 => ?_)
    · show tt Zi d 135 (129, [some (.inr (.inl 30)), o_1, o_2, o_3, o_4, some (.inl k)], [], n, D, s, p, c0) _
      exact hK k c0 (by omega) hC0 hG0 (by omega)
    · show tt Zi d 135 (115, [some (.inr (.inl 30)), o_1, o_2, o_3, o_4, some (.inl k)], [], n, D, s, p, c0) _
      refine tt_k 4 (S' := (122, [some (.inr (.inl 30)), o_1, o_2, o_3, o_4, some (.inl k)], [.inl 0, .inl k, .inr (.inl 32)], n, D, s, p, c0)) rfl ?_
      refine tt_ist (i := k) (x := 0) rfl rfl (by omega) ?_
      show tt Zi d 135 (123, [some (.inr (.inl 30)), o_1, o_2, o_3, o_4, some (.inl k)], [], n, D, s, p, (uc c0 32 (ua (c0 32) (k).toNat 0))) _
      refine tt_k 2 (S' := (109, [some (.inr (.inl 30)), o_1, o_2, o_3, o_4, some (.inl (k + 1))], [], n, D, s, p, (uc c0 32 (ua (c0 32) (k).toNat 0)))) rfl ?_
      exact ih (k + 1) (uc c0 32 (ua (c0 32) (k).toNat 0)) (by omega) (bC_st hC0 (show 0 ≤ 0 ∧ 0 ≤ 65535 by omega)) (frc_uc (by decide) hG0) (show (5 - (k + 1)).toNat < m by omega)
set_option maxRecDepth 100000 in
set_option maxHeartbeats 4000000 in
theorem k_canvas2 {Zi : Nat → Option (Nat × (Nat → Int))} {d n : Nat} {D : Nat → Nat × Nat} {s : Nat → Int} {p : Nat → Nat} {c : Nat → Nat → Int} (hd : 1 ≤ d) (hS : bS s) (hC : bC D c) (wide : Int) (high : Int) (many : Int) (bits : Int) (b_wide : -2147483648 ≤ wide ∧ wide ≤ 2147483647) (b_high : -2147483648 ≤ high ∧ high ≤ 2147483647) (b_many : -2147483648 ≤ many ∧ many ≤ 2147483647) (b_bits : -2147483648 ≤ bits ∧ bits ≤ 2147483647) : tt Zi d 135 (0, [some (.inr (.inl 30)), some (.inl wide), some (.inl high), some (.inl many), some (.inl bits), none], [], n, D, s, p, c) (fun R H => ∃ (s' : Nat → Int) (c' : Nat → Nat → Int), R = .inl none ∧ H = (n, D, s', p, c') ∧ bS s' ∧ bC D c' ∧ fr s s' [3000, 3001, 3002, 3003, 3004] ∧ frc c c' [31, 32] ∧ (s' 3000 = if (1 ≤ wide ∧ wide ≤ 64) ∧ (1 ≤ high ∧ high ≤ 64) ∧ (many = 1 ∨ many = 3) ∧ (2 ≤ bits ∧ bits ≤ 16) then 0 else 1) ∧ (s' 3001 = if (1 ≤ wide ∧ wide ≤ 64) ∧ (1 ≤ high ∧ high ≤ 64) ∧ (many = 1 ∨ many = 3) ∧ (2 ≤ bits ∧ bits ≤ 16) then wide else s 3001) ∧ (s' 3002 = if (1 ≤ wide ∧ wide ≤ 64) ∧ (1 ≤ high ∧ high ≤ 64) ∧ (many = 1 ∨ many = 3) ∧ (2 ≤ bits ∧ bits ≤ 16) then high else s 3002) ∧ (s' 3003 = if (1 ≤ wide ∧ wide ≤ 64) ∧ (1 ≤ high ∧ high ≤ 64) ∧ (many = 1 ∨ many = 3) ∧ (2 ≤ bits ∧ bits ≤ 16) then many else s 3003) ∧ (s' 3004 = if (1 ≤ wide ∧ wide ≤ 64) ∧ (1 ≤ high ∧ high ≤ 64) ∧ (many = 1 ∨ many = 3) ∧ (2 ≤ bits ∧ bits ≤ 16) then bits else s 3004)) := by
  refine tt_k 4 (S' := (5, [some (.inr (.inl 30)), some (.inl wide), some (.inl high), some (.inl many), some (.inl bits), none], [.inl 64, .inl 1, .inl wide, .inr (.inl 30)], n, D, s, p, c)) rfl ?_
  refine tt_cl (by omega) rfl (k_isIn (Zi := Zi) (D := D) (s := s) (p := p) (c := c) (by omega) hS hC wide 1 64 (by omega) (by omega) (by omega)) ?_
  rintro _ _ ⟨r1, rfl, rfl, b2, k3⟩
  show tt Zi d 135 (8, [some (.inr (.inl 30)), some (.inl wide), some (.inl high), some (.inl many), some (.inl bits), none], [.inl r1, .inr (.inl 30)], n, D, s, p, c) _
  replace k3 : r1 = if 1 ≤ wide ∧ wide ≤ 64 then (1 : Int) else 0 := k3
  subst k3
  show tt Zi d 135 (8, [some (.inr (.inl 30)), some (.inl wide), some (.inl high), some (.inl many), some (.inl bits), none], [.inl (if 1 ≤ wide ∧ wide ≤ 64 then (1 : Int) else 0), .inr (.inl 30)], n, D, s, p, c) _
  have K5 : ∀ (j4 : Int) , (0 ≤ j4 ∧ j4 ≤ 1) → (((if 1 ≤ wide ∧ wide ≤ 64 then (1 : Int) else 0) = 0 ∧ j4 = 1) ∨ ((if 1 ≤ wide ∧ wide ≤ 64 then (1 : Int) else 0) ≠ 0 ∧ (if 1 ≤ high ∧ high ≤ 64 then (1 : Int) else 0) = 0 ∧ j4 = 1) ∨ ((if 1 ≤ wide ∧ wide ≤ 64 then (1 : Int) else 0) ≠ 0 ∧ (if 1 ≤ high ∧ high ≤ 64 then (1 : Int) else 0) ≠ 0 ∧ many = 1 ∧ (if 2 ≤ bits ∧ bits ≤ 16 then (1 : Int) else 0) = 0 ∧ j4 = 1) ∨ ((if 1 ≤ wide ∧ wide ≤ 64 then (1 : Int) else 0) ≠ 0 ∧ (if 1 ≤ high ∧ high ≤ 64 then (1 : Int) else 0) ≠ 0 ∧ many = 1 ∧ (if 2 ≤ bits ∧ bits ≤ 16 then (1 : Int) else 0) ≠ 0 ∧ j4 = 0) ∨ ((if 1 ≤ wide ∧ wide ≤ 64 then (1 : Int) else 0) ≠ 0 ∧ (if 1 ≤ high ∧ high ≤ 64 then (1 : Int) else 0) ≠ 0 ∧ many ≠ 1 ∧ many ≠ 3 ∧ j4 = 1) ∨ ((if 1 ≤ wide ∧ wide ≤ 64 then (1 : Int) else 0) ≠ 0 ∧ (if 1 ≤ high ∧ high ≤ 64 then (1 : Int) else 0) ≠ 0 ∧ many ≠ 1 ∧ many = 3 ∧ (if 2 ≤ bits ∧ bits ≤ 16 then (1 : Int) else 0) = 0 ∧ j4 = 1) ∨ ((if 1 ≤ wide ∧ wide ≤ 64 then (1 : Int) else 0) ≠ 0 ∧ (if 1 ≤ high ∧ high ≤ 64 then (1 : Int) else 0) ≠ 0 ∧ many ≠ 1 ∧ many = 3 ∧ (if 2 ≤ bits ∧ bits ≤ 16 then (1 : Int) else 0) ≠ 0 ∧ j4 = 0)) → tt Zi d 135 (47, [some (.inr (.inl 30)), some (.inl wide), some (.inl high), some (.inl many), some (.inl bits), none], [.inl j4, .inr (.inl 30)], n, D, s, p, c) (fun R H => ∃ (s' : Nat → Int) (c' : Nat → Nat → Int), R = .inl none ∧ H = (n, D, s', p, c') ∧ bS s' ∧ bC D c' ∧ fr s s' [3000, 3001, 3002, 3003, 3004] ∧ frc c c' [31, 32] ∧ (s' 3000 = if (1 ≤ wide ∧ wide ≤ 64) ∧ (1 ≤ high ∧ high ≤ 64) ∧ (many = 1 ∨ many = 3) ∧ (2 ≤ bits ∧ bits ≤ 16) then 0 else 1) ∧ (s' 3001 = if (1 ≤ wide ∧ wide ≤ 64) ∧ (1 ≤ high ∧ high ≤ 64) ∧ (many = 1 ∨ many = 3) ∧ (2 ≤ bits ∧ bits ≤ 16) then wide else s 3001) ∧ (s' 3002 = if (1 ≤ wide ∧ wide ≤ 64) ∧ (1 ≤ high ∧ high ≤ 64) ∧ (many = 1 ∨ many = 3) ∧ (2 ≤ bits ∧ bits ≤ 16) then high else s 3002) ∧ (s' 3003 = if (1 ≤ wide ∧ wide ≤ 64) ∧ (1 ≤ high ∧ high ≤ 64) ∧ (many = 1 ∨ many = 3) ∧ (2 ≤ bits ∧ bits ≤ 16) then many else s 3003) ∧ (s' 3004 = if (1 ≤ wide ∧ wide ≤ 64) ∧ (1 ≤ high ∧ high ≤ 64) ∧ (many = 1 ∨ many = 3) ∧ (2 ≤ bits ∧ bits ≤ 16) then bits else s 3004)) := by
    intro j4 b7 hj6
    refine tt_k 3 (S' := (54, [some (.inr (.inl 30)), some (.inl wide), some (.inl high), some (.inl many), some (.inl bits), none], [.inl j4], n, D, (us s 3000 j4), p, c)) rfl ?_
    refine tz_le (x := j4) rfl rfl (by omega) (fun h8 => ?_) (fun h8 => ?_)
    · show tt Zi d 135 (58, [some (.inr (.inl 30)), some (.inl wide), some (.inl high), some (.inl many), some (.inl bits), none], [], n, D, (us s 3000 j4), p, c) _
      refine tt_k 14 (S' := (82, [some (.inr (.inl 30)), some (.inl wide), some (.inl high), some (.inl many), some (.inl bits), some (.inl 0)], [], n, D, (us (us (us (us (us s 3000 j4) 3001 wide) 3002 high) 3003 many) 3004 bits), p, c)) rfl ?_
      refine k_canvas2_L82 (Zi := Zi) (D := D) (s := (us (us (us (us (us s 3000 j4) 3001 wide) 3002 high) 3003 many) 3004 bits)) (p := p) (c := c) hd (bS_us (bS_us (bS_us (bS_us (bS_us hS (show 0 ≤ j4 ∧ j4 ≤ 2 by omega)) (show 1 ≤ wide ∧ wide ≤ 64 by omega)) (show 1 ≤ high ∧ high ≤ 64 by omega)) (show 1 ≤ many ∧ many ≤ 3 by omega)) (show 2 ≤ bits ∧ bits ≤ 16 by omega)) hC    ?_ _ 0 c (by omega) hC frc_rf (Nat.lt_succ_self _)
      intro x9 c10 b11 hC10 g12 hx13
      show tt Zi d 135 (106, [some (.inr (.inl 30)), some (.inl wide), some (.inl high), some (.inl many), some (.inl bits), some (.inl x9)], [], n, D, (us (us (us (us (us s 3000 j4) 3001 wide) 3002 high) 3003 many) 3004 bits), p, c10) _
      refine tt_k 2 (S' := (109, [some (.inr (.inl 30)), some (.inl wide), some (.inl high), some (.inl many), some (.inl bits), some (.inl 0)], [], n, D, (us (us (us (us (us s 3000 j4) 3001 wide) 3002 high) 3003 many) 3004 bits), p, c10)) rfl ?_
      refine k_canvas2_L109 (Zi := Zi) (D := D) (s := (us (us (us (us (us s 3000 j4) 3001 wide) 3002 high) 3003 many) 3004 bits)) (p := p) (c := c10) hd (bS_us (bS_us (bS_us (bS_us (bS_us hS (show 0 ≤ j4 ∧ j4 ≤ 2 by omega)) (show 1 ≤ wide ∧ wide ≤ 64 by omega)) (show 1 ≤ high ∧ high ≤ 64 by omega)) (show 1 ≤ many ∧ many ≤ 3 by omega)) (show 2 ≤ bits ∧ bits ≤ 16 by omega)) hC10    ?_ _ 0 c10 (by omega) hC10 frc_rf (Nat.lt_succ_self _)
      intro x14 c15 b16 hC15 g17 hx18
      show tt Zi d 135 (129, [some (.inr (.inl 30)), some (.inl wide), some (.inl high), some (.inl many), some (.inl bits), some (.inl x14)], [], n, D, (us (us (us (us (us s 3000 j4) 3001 wide) 3002 high) 3003 many) 3004 bits), p, c15) _
      exact tt_rtv rfl rfl ⟨(us (us (us (us (us s 3000 j4) 3001 wide) 3002 high) 3003 many) 3004 bits), c15, rfl, rfl, (bS_us (bS_us (bS_us (bS_us (bS_us hS (show 0 ≤ j4 ∧ j4 ≤ 2 by omega)) (show 1 ≤ wide ∧ wide ≤ 64 by omega)) (show 1 ≤ high ∧ high ≤ 64 by omega)) (show 1 ≤ many ∧ many ≤ 3 by omega)) (show 2 ≤ bits ∧ bits ≤ 16 by omega)), hC15, (fr_us (by decide) (fr_us (by decide) (fr_us (by decide) (fr_us (by decide) (fr_us (by decide) fr_rf))))), (frc_tr (frc_tr frc_rf g12 (by decide)) g17 (by decide)), by show j4 = if (1 ≤ wide ∧ wide ≤ 64) ∧ (1 ≤ high ∧ high ≤ 64) ∧ (many = 1 ∨ many = 3) ∧ (2 ≤ bits ∧ bits ≤ 16) then 0 else 1; first | omega | (split <;> omega) | (split <;> (try split) <;> omega), by show wide = if (1 ≤ wide ∧ wide ≤ 64) ∧ (1 ≤ high ∧ high ≤ 64) ∧ (many = 1 ∨ many = 3) ∧ (2 ≤ bits ∧ bits ≤ 16) then wide else s 3001; first | omega | (split <;> omega) | (split <;> (try split) <;> omega), by show high = if (1 ≤ wide ∧ wide ≤ 64) ∧ (1 ≤ high ∧ high ≤ 64) ∧ (many = 1 ∨ many = 3) ∧ (2 ≤ bits ∧ bits ≤ 16) then high else s 3002; first | omega | (split <;> omega) | (split <;> (try split) <;> omega), by show many = if (1 ≤ wide ∧ wide ≤ 64) ∧ (1 ≤ high ∧ high ≤ 64) ∧ (many = 1 ∨ many = 3) ∧ (2 ≤ bits ∧ bits ≤ 16) then many else s 3003; first | omega | (split <;> omega) | (split <;> (try split) <;> omega), by show bits = if (1 ≤ wide ∧ wide ≤ 64) ∧ (1 ≤ high ∧ high ≤ 64) ∧ (many = 1 ∨ many = 3) ∧ (2 ≤ bits ∧ bits ≤ 16) then bits else s 3004; first | omega | (split <;> omega) | (split <;> (try split) <;> omega)⟩
    · show tt Zi d 135 (57, [some (.inr (.inl 30)), some (.inl wide), some (.inl high), some (.inl many), some (.inl bits), none], [], n, D, (us s 3000 j4), p, c) _
      exact tt_rtv rfl rfl ⟨(us s 3000 j4), c, rfl, rfl, (bS_us hS (show 0 ≤ j4 ∧ j4 ≤ 2 by omega)), hC, (fr_us (by decide) fr_rf), frc_rf, by show j4 = if (1 ≤ wide ∧ wide ≤ 64) ∧ (1 ≤ high ∧ high ≤ 64) ∧ (many = 1 ∨ many = 3) ∧ (2 ≤ bits ∧ bits ≤ 16) then 0 else 1; first | omega | (split <;> omega) | (split <;> (try split) <;> omega), by show (s 3001) = if (1 ≤ wide ∧ wide ≤ 64) ∧ (1 ≤ high ∧ high ≤ 64) ∧ (many = 1 ∨ many = 3) ∧ (2 ≤ bits ∧ bits ≤ 16) then wide else s 3001; first | omega | (split <;> omega) | (split <;> (try split) <;> omega), by show (s 3002) = if (1 ≤ wide ∧ wide ≤ 64) ∧ (1 ≤ high ∧ high ≤ 64) ∧ (many = 1 ∨ many = 3) ∧ (2 ≤ bits ∧ bits ≤ 16) then high else s 3002; first | omega | (split <;> omega) | (split <;> (try split) <;> omega), by show (s 3003) = if (1 ≤ wide ∧ wide ≤ 64) ∧ (1 ≤ high ∧ high ≤ 64) ∧ (many = 1 ∨ many = 3) ∧ (2 ≤ bits ∧ bits ≤ 16) then many else s 3003; first | omega | (split <;> omega) | (split <;> (try split) <;> omega), by show (s 3004) = if (1 ≤ wide ∧ wide ≤ 64) ∧ (1 ≤ high ∧ high ≤ 64) ∧ (many = 1 ∨ many = 3) ∧ (2 ≤ bits ∧ bits ≤ 16) then bits else s 3004; first | omega | (split <;> omega) | (split <;> (try split) <;> omega)⟩
  refine tz_eq (x := (if 1 ≤ wide ∧ wide ≤ 64 then (1 : Int) else 0)) rfl rfl (by omega) (fun h19 => ?_) (fun h19 => ?_)
  · show tt Zi d 135 (46, [some (.inr (.inl 30)), some (.inl wide), some (.inl high), some (.inl many), some (.inl bits), none], [.inr (.inl 30)], n, D, s, p, c) _
    refine tt_k 1 (S' := (47, [some (.inr (.inl 30)), some (.inl wide), some (.inl high), some (.inl many), some (.inl bits), none], [.inl 1, .inr (.inl 30)], n, D, s, p, c)) rfl ?_
    exact K5 1  (by omega) (Or.inl ⟨h19, rfl⟩)
  · show tt Zi d 135 (11, [some (.inr (.inl 30)), some (.inl wide), some (.inl high), some (.inl many), some (.inl bits), none], [.inr (.inl 30)], n, D, s, p, c) _
    refine tt_k 3 (S' := (15, [some (.inr (.inl 30)), some (.inl wide), some (.inl high), some (.inl many), some (.inl bits), none], [.inl 64, .inl 1, .inl high, .inr (.inl 30)], n, D, s, p, c)) rfl ?_
    refine tt_cl (by omega) rfl (k_isIn (Zi := Zi) (D := D) (s := s) (p := p) (c := c) (by omega) hS hC high 1 64 (by omega) (by omega) (by omega)) ?_
    rintro _ _ ⟨r20, rfl, rfl, b21, k22⟩
    show tt Zi d 135 (18, [some (.inr (.inl 30)), some (.inl wide), some (.inl high), some (.inl many), some (.inl bits), none], [.inl r20, .inr (.inl 30)], n, D, s, p, c) _
    replace k22 : r20 = if 1 ≤ high ∧ high ≤ 64 then (1 : Int) else 0 := k22
    subst k22
    show tt Zi d 135 (18, [some (.inr (.inl 30)), some (.inl wide), some (.inl high), some (.inl many), some (.inl bits), none], [.inl (if 1 ≤ high ∧ high ≤ 64 then (1 : Int) else 0), .inr (.inl 30)], n, D, s, p, c) _
    refine tz_eq (x := (if 1 ≤ high ∧ high ≤ 64 then (1 : Int) else 0)) rfl rfl (by omega) (fun h23 => ?_) (fun h23 => ?_)
    · show tt Zi d 135 (46, [some (.inr (.inl 30)), some (.inl wide), some (.inl high), some (.inl many), some (.inl bits), none], [.inr (.inl 30)], n, D, s, p, c) _
      refine tt_k 1 (S' := (47, [some (.inr (.inl 30)), some (.inl wide), some (.inl high), some (.inl many), some (.inl bits), none], [.inl 1, .inr (.inl 30)], n, D, s, p, c)) rfl ?_
      exact K5 1  (by omega) (Or.inr (Or.inl ⟨h19, h23, rfl⟩))
    · show tt Zi d 135 (21, [some (.inr (.inl 30)), some (.inl wide), some (.inl high), some (.inl many), some (.inl bits), none], [.inr (.inl 30)], n, D, s, p, c) _
      refine tt_k 2 (S' := (23, [some (.inr (.inl 30)), some (.inl wide), some (.inl high), some (.inl many), some (.inl bits), none], [.inl 1, .inl many, .inr (.inl 30)], n, D, s, p, c)) rfl ?_
      refine tb_eq (x := many) (y := 1) rfl rfl (by omega) (fun h24 => ?_) (fun h24 => ?_)
      · show tt Zi d 135 (31, [some (.inr (.inl 30)), some (.inl wide), some (.inl high), some (.inl many), some (.inl bits), none], [.inr (.inl 30)], n, D, s, p, c) _
        refine tt_k 3 (S' := (36, [some (.inr (.inl 30)), some (.inl wide), some (.inl high), some (.inl many), some (.inl bits), none], [.inl 16, .inl 2, .inl bits, .inr (.inl 30)], n, D, s, p, c)) rfl ?_
        refine tt_cl (by omega) rfl (k_isIn (Zi := Zi) (D := D) (s := s) (p := p) (c := c) (by omega) hS hC bits 2 16 (by omega) (by omega) (by omega)) ?_
        rintro _ _ ⟨r25, rfl, rfl, b26, k27⟩
        show tt Zi d 135 (39, [some (.inr (.inl 30)), some (.inl wide), some (.inl high), some (.inl many), some (.inl bits), none], [.inl r25, .inr (.inl 30)], n, D, s, p, c) _
        replace k27 : r25 = if 2 ≤ bits ∧ bits ≤ 16 then (1 : Int) else 0 := k27
        subst k27
        show tt Zi d 135 (39, [some (.inr (.inl 30)), some (.inl wide), some (.inl high), some (.inl many), some (.inl bits), none], [.inl (if 2 ≤ bits ∧ bits ≤ 16 then (1 : Int) else 0), .inr (.inl 30)], n, D, s, p, c) _
        refine tz_eq (x := (if 2 ≤ bits ∧ bits ≤ 16 then (1 : Int) else 0)) rfl rfl (by omega) (fun h28 => ?_) (fun h28 => ?_)
        · show tt Zi d 135 (46, [some (.inr (.inl 30)), some (.inl wide), some (.inl high), some (.inl many), some (.inl bits), none], [.inr (.inl 30)], n, D, s, p, c) _
          refine tt_k 1 (S' := (47, [some (.inr (.inl 30)), some (.inl wide), some (.inl high), some (.inl many), some (.inl bits), none], [.inl 1, .inr (.inl 30)], n, D, s, p, c)) rfl ?_
          exact K5 1  (by omega) (Or.inr (Or.inr (Or.inl ⟨h19, h23, h24, h28, rfl⟩)))
        · show tt Zi d 135 (42, [some (.inr (.inl 30)), some (.inl wide), some (.inl high), some (.inl many), some (.inl bits), none], [.inr (.inl 30)], n, D, s, p, c) _
          refine tt_k 2 (S' := (47, [some (.inr (.inl 30)), some (.inl wide), some (.inl high), some (.inl many), some (.inl bits), none], [.inl 0, .inr (.inl 30)], n, D, s, p, c)) rfl ?_
          exact K5 0  (by omega) (Or.inr (Or.inr (Or.inr (Or.inl ⟨h19, h23, h24, h28, rfl⟩))))
      · show tt Zi d 135 (26, [some (.inr (.inl 30)), some (.inl wide), some (.inl high), some (.inl many), some (.inl bits), none], [.inr (.inl 30)], n, D, s, p, c) _
        refine tt_k 2 (S' := (28, [some (.inr (.inl 30)), some (.inl wide), some (.inl high), some (.inl many), some (.inl bits), none], [.inl 3, .inl many, .inr (.inl 30)], n, D, s, p, c)) rfl ?_
        refine tb_ne (x := many) (y := 3) rfl rfl (by omega) (fun h29 => ?_) (fun h29 => ?_)
        · show tt Zi d 135 (46, [some (.inr (.inl 30)), some (.inl wide), some (.inl high), some (.inl many), some (.inl bits), none], [.inr (.inl 30)], n, D, s, p, c) _
          refine tt_k 1 (S' := (47, [some (.inr (.inl 30)), some (.inl wide), some (.inl high), some (.inl many), some (.inl bits), none], [.inl 1, .inr (.inl 30)], n, D, s, p, c)) rfl ?_
          exact K5 1  (by omega) (Or.inr (Or.inr (Or.inr (Or.inr (Or.inl ⟨h19, h23, h24, h29, rfl⟩)))))
        · show tt Zi d 135 (31, [some (.inr (.inl 30)), some (.inl wide), some (.inl high), some (.inl many), some (.inl bits), none], [.inr (.inl 30)], n, D, s, p, c) _
          refine tt_k 3 (S' := (36, [some (.inr (.inl 30)), some (.inl wide), some (.inl high), some (.inl many), some (.inl bits), none], [.inl 16, .inl 2, .inl bits, .inr (.inl 30)], n, D, s, p, c)) rfl ?_
          refine tt_cl (by omega) rfl (k_isIn (Zi := Zi) (D := D) (s := s) (p := p) (c := c) (by omega) hS hC bits 2 16 (by omega) (by omega) (by omega)) ?_
          rintro _ _ ⟨r30, rfl, rfl, b31, k32⟩
          show tt Zi d 135 (39, [some (.inr (.inl 30)), some (.inl wide), some (.inl high), some (.inl many), some (.inl bits), none], [.inl r30, .inr (.inl 30)], n, D, s, p, c) _
          replace k32 : r30 = if 2 ≤ bits ∧ bits ≤ 16 then (1 : Int) else 0 := k32
          subst k32
          show tt Zi d 135 (39, [some (.inr (.inl 30)), some (.inl wide), some (.inl high), some (.inl many), some (.inl bits), none], [.inl (if 2 ≤ bits ∧ bits ≤ 16 then (1 : Int) else 0), .inr (.inl 30)], n, D, s, p, c) _
          refine tz_eq (x := (if 2 ≤ bits ∧ bits ≤ 16 then (1 : Int) else 0)) rfl rfl (by omega) (fun h33 => ?_) (fun h33 => ?_)
          · show tt Zi d 135 (46, [some (.inr (.inl 30)), some (.inl wide), some (.inl high), some (.inl many), some (.inl bits), none], [.inr (.inl 30)], n, D, s, p, c) _
            refine tt_k 1 (S' := (47, [some (.inr (.inl 30)), some (.inl wide), some (.inl high), some (.inl many), some (.inl bits), none], [.inl 1, .inr (.inl 30)], n, D, s, p, c)) rfl ?_
            exact K5 1  (by omega) (Or.inr (Or.inr (Or.inr (Or.inr (Or.inr (Or.inl ⟨h19, h23, h24, h29, h33, rfl⟩))))))
          · show tt Zi d 135 (42, [some (.inr (.inl 30)), some (.inl wide), some (.inl high), some (.inl many), some (.inl bits), none], [.inr (.inl 30)], n, D, s, p, c) _
            refine tt_k 2 (S' := (47, [some (.inr (.inl 30)), some (.inl wide), some (.inl high), some (.inl many), some (.inl bits), none], [.inl 0, .inr (.inl 30)], n, D, s, p, c)) rfl ?_
            exact K5 0  (by omega) (Or.inr (Or.inr (Or.inr (Or.inr (Or.inr (Or.inr (⟨h19, h23, h24, h29, h33, rfl⟩)))))))
set_option maxRecDepth 100000 in
set_option maxHeartbeats 4000000 in
theorem k_measures2 {Zi : Nat → Option (Nat × (Nat → Int))} {d n : Nat} {D : Nat → Nat × Nat} {s : Nat → Int} {p : Nat → Nat} {c : Nat → Nat → Int} (hd : 1 ≤ d) (hS : bS s) (hC : bC D c) (a1 : Int) (a2 : Int) (a3 : Int) (a4 : Int) (a5 : Int) (b_a1 : -2147483648 ≤ a1 ∧ a1 ≤ 2147483647) (b_a2 : -2147483648 ≤ a2 ∧ a2 ≤ 2147483647) (b_a3 : -2147483648 ≤ a3 ∧ a3 ≤ 2147483647) (b_a4 : -2147483648 ≤ a4 ∧ a4 ≤ 2147483647) (b_a5 : -2147483648 ≤ a5 ∧ a5 ≤ 2147483647) : tt Zi d 142 (0, [some (.inr (.inl 30)), some (.inl a1), some (.inl a2), some (.inl a3), some (.inl a4), some (.inl a5), none], [], n, D, s, p, c) (fun R H => ∃ (s' : Nat → Int) (c' : Nat → Nat → Int), R = .inl none ∧ H = (n, D, s', p, c') ∧ bS s' ∧ bC D c' ∧ fr s s' [3000] ∧ frc c c' [32] ∧ (s' 3000 = if ((0 ≤ a1 ∧ a1 ≤ 65535) ∧ (0 ≤ a2 ∧ a2 ≤ 65535) ∧ (0 ≤ a3 ∧ a3 ≤ 65535) ∧ (0 ≤ a4 ∧ a4 ≤ 65535) ∧ (0 ≤ a5 ∧ a5 ≤ 65535) ∧ a1 ≤ mi_shl 1 (s 3004) - 1) then 0 else 1)) := by
  have b1 : 2 ≤ (s 3004) ∧ (s 3004) ≤ 16 := hS 3004
  have e2 : 4 ≤ (mi_shl 1 (s 3004)) ∧ (mi_shl 1 (s 3004)) ≤ 65536 := mi_shl1b 2 16 (by omega) (by omega) (by decide)
  refine tt_k 3 (S' := (4, [some (.inr (.inl 30)), some (.inl a1), some (.inl a2), some (.inl a3), some (.inl a4), some (.inl a5), none], [.inl 65535, .inl 0, .inl a1], n, D, s, p, c)) rfl ?_
  refine tt_cl (by omega) rfl (k_isIn (Zi := Zi) (D := D) (s := s) (p := p) (c := c) (by omega) hS hC a1 0 65535 (by omega) (by omega) (by omega)) ?_
  rintro _ _ ⟨r3, rfl, rfl, b4, k5⟩
  show tt Zi d 142 (7, [some (.inr (.inl 30)), some (.inl a1), some (.inl a2), some (.inl a3), some (.inl a4), some (.inl a5), none], [.inl r3], n, D, s, p, c) _
  replace k5 : r3 = if 0 ≤ a1 ∧ a1 ≤ 65535 then (1 : Int) else 0 := k5
  subst k5
  show tt Zi d 142 (7, [some (.inr (.inl 30)), some (.inl a1), some (.inl a2), some (.inl a3), some (.inl a4), some (.inl a5), none], [.inl (if 0 ≤ a1 ∧ a1 ≤ 65535 then (1 : Int) else 0)], n, D, s, p, c) _
  have K7 : ∀ (j6 : Int) , (0 ≤ j6 ∧ j6 ≤ 1) → (((if 0 ≤ a1 ∧ a1 ≤ 65535 then (1 : Int) else 0) = 0 ∧ j6 = 0) ∨ ((if 0 ≤ a1 ∧ a1 ≤ 65535 then (1 : Int) else 0) ≠ 0 ∧ (if 0 ≤ a2 ∧ a2 ≤ 65535 then (1 : Int) else 0) = 0 ∧ j6 = 0) ∨ ((if 0 ≤ a1 ∧ a1 ≤ 65535 then (1 : Int) else 0) ≠ 0 ∧ (if 0 ≤ a2 ∧ a2 ≤ 65535 then (1 : Int) else 0) ≠ 0 ∧ (if 0 ≤ a3 ∧ a3 ≤ 65535 then (1 : Int) else 0) = 0 ∧ j6 = 0) ∨ ((if 0 ≤ a1 ∧ a1 ≤ 65535 then (1 : Int) else 0) ≠ 0 ∧ (if 0 ≤ a2 ∧ a2 ≤ 65535 then (1 : Int) else 0) ≠ 0 ∧ (if 0 ≤ a3 ∧ a3 ≤ 65535 then (1 : Int) else 0) ≠ 0 ∧ (if 0 ≤ a4 ∧ a4 ≤ 65535 then (1 : Int) else 0) = 0 ∧ j6 = 0) ∨ ((if 0 ≤ a1 ∧ a1 ≤ 65535 then (1 : Int) else 0) ≠ 0 ∧ (if 0 ≤ a2 ∧ a2 ≤ 65535 then (1 : Int) else 0) ≠ 0 ∧ (if 0 ≤ a3 ∧ a3 ≤ 65535 then (1 : Int) else 0) ≠ 0 ∧ (if 0 ≤ a4 ∧ a4 ≤ 65535 then (1 : Int) else 0) ≠ 0 ∧ (if 0 ≤ a5 ∧ a5 ≤ 65535 then (1 : Int) else 0) = 0 ∧ j6 = 0) ∨ ((if 0 ≤ a1 ∧ a1 ≤ 65535 then (1 : Int) else 0) ≠ 0 ∧ (if 0 ≤ a2 ∧ a2 ≤ 65535 then (1 : Int) else 0) ≠ 0 ∧ (if 0 ≤ a3 ∧ a3 ≤ 65535 then (1 : Int) else 0) ≠ 0 ∧ (if 0 ≤ a4 ∧ a4 ≤ 65535 then (1 : Int) else 0) ≠ 0 ∧ (if 0 ≤ a5 ∧ a5 ≤ 65535 then (1 : Int) else 0) ≠ 0 ∧ j6 = 1)) → tt Zi d 142 (57, [some (.inr (.inl 30)), some (.inl a1), some (.inl a2), some (.inl a3), some (.inl a4), some (.inl a5), none], [.inl j6], n, D, s, p, c) (fun R H => ∃ (s' : Nat → Int) (c' : Nat → Nat → Int), R = .inl none ∧ H = (n, D, s', p, c') ∧ bS s' ∧ bC D c' ∧ fr s s' [3000] ∧ frc c c' [32] ∧ (s' 3000 = if ((0 ≤ a1 ∧ a1 ≤ 65535) ∧ (0 ≤ a2 ∧ a2 ≤ 65535) ∧ (0 ≤ a3 ∧ a3 ≤ 65535) ∧ (0 ≤ a4 ∧ a4 ≤ 65535) ∧ (0 ≤ a5 ∧ a5 ≤ 65535) ∧ a1 ≤ mi_shl 1 (s 3004) - 1) then 0 else 1)) := by
    intro j6 b9 hj8
    refine tt_k 3 (S' := (62, [some (.inr (.inl 30)), some (.inl a1), some (.inl a2), some (.inl a3), some (.inl a4), some (.inl a5), some (.inl j6)], [.inl j6, .inr (.inl 30)], n, D, s, p, c)) rfl ?_
    have K11 : ∀ (j10 : Int) , (0 ≤ j10 ∧ j10 ≤ 1) → ((j6 = 0 ∧ j10 = 1) ∨ (j6 ≠ 0 ∧ (mi_shl 1 ((s 3004)) - 1) < a1 ∧ j10 = 1) ∨ (j6 ≠ 0 ∧ a1 ≤ (mi_shl 1 ((s 3004)) - 1) ∧ j10 = 0)) → tt Zi d 142 (78, [some (.inr (.inl 30)), some (.inl a1), some (.inl a2), some (.inl a3), some (.inl a4), some (.inl a5), some (.inl j6)], [.inl j10, .inr (.inl 30)], n, D, s, p, c) (fun R H => ∃ (s' : Nat → Int) (c' : Nat → Nat → Int), R = .inl none ∧ H = (n, D, s', p, c') ∧ bS s' ∧ bC D c' ∧ fr s s' [3000] ∧ frc c c' [32] ∧ (s' 3000 = if ((0 ≤ a1 ∧ a1 ≤ 65535) ∧ (0 ≤ a2 ∧ a2 ≤ 65535) ∧ (0 ≤ a3 ∧ a3 ≤ 65535) ∧ (0 ≤ a4 ∧ a4 ≤ 65535) ∧ (0 ≤ a5 ∧ a5 ≤ 65535) ∧ a1 ≤ mi_shl 1 (s 3004) - 1) then 0 else 1)) := by
      intro j10 b13 hj12
      refine tt_k 3 (S' := (85, [some (.inr (.inl 30)), some (.inl a1), some (.inl a2), some (.inl a3), some (.inl a4), some (.inl a5), some (.inl j6)], [.inl j10], n, D, (us s 3000 j10), p, c)) rfl ?_
      refine tz_le (x := j10) rfl rfl (by omega) (fun h14 => ?_) (fun h14 => ?_)
      · show tt Zi d 142 (89, [some (.inr (.inl 30)), some (.inl a1), some (.inl a2), some (.inl a3), some (.inl a4), some (.inl a5), some (.inl j6)], [], n, D, (us s 3000 j10), p, c) _
        refine tt_k 4 (S' := (95, [some (.inr (.inl 30)), some (.inl a1), some (.inl a2), some (.inl a3), some (.inl a4), some (.inl a5), some (.inl j6)], [.inl a1, .inl 0, .inr (.inl 32)], n, D, (us s 3000 j10), p, c)) rfl ?_
        refine tt_ist (i := 0) (x := a1) rfl rfl (by omega) ?_
        show tt Zi d 142 (96, [some (.inr (.inl 30)), some (.inl a1), some (.inl a2), some (.inl a3), some (.inl a4), some (.inl a5), some (.inl j6)], [], n, D, (us s 3000 j10), p, (uc c 32 (ua (c 32) (0 : Int).toNat a1))) _
        refine tt_k 4 (S' := (102, [some (.inr (.inl 30)), some (.inl a1), some (.inl a2), some (.inl a3), some (.inl a4), some (.inl a5), some (.inl j6)], [.inl a2, .inl 1, .inr (.inl 32)], n, D, (us s 3000 j10), p, (uc c 32 (ua (c 32) (0 : Int).toNat a1)))) rfl ?_
        refine tt_ist (i := 1) (x := a2) rfl rfl (by omega) ?_
        show tt Zi d 142 (103, [some (.inr (.inl 30)), some (.inl a1), some (.inl a2), some (.inl a3), some (.inl a4), some (.inl a5), some (.inl j6)], [], n, D, (us s 3000 j10), p, (uc (uc c 32 (ua (c 32) (0 : Int).toNat a1)) 32 (ua (ua (c 32) (0 : Int).toNat a1) (1 : Int).toNat a2))) _
        refine tt_k 4 (S' := (109, [some (.inr (.inl 30)), some (.inl a1), some (.inl a2), some (.inl a3), some (.inl a4), some (.inl a5), some (.inl j6)], [.inl a3, .inl 2, .inr (.inl 32)], n, D, (us s 3000 j10), p, (uc (uc c 32 (ua (c 32) (0 : Int).toNat a1)) 32 (ua (ua (c 32) (0 : Int).toNat a1) (1 : Int).toNat a2)))) rfl ?_
        refine tt_ist (i := 2) (x := a3) rfl rfl (by omega) ?_
        show tt Zi d 142 (110, [some (.inr (.inl 30)), some (.inl a1), some (.inl a2), some (.inl a3), some (.inl a4), some (.inl a5), some (.inl j6)], [], n, D, (us s 3000 j10), p, (uc (uc (uc c 32 (ua (c 32) (0 : Int).toNat a1)) 32 (ua (ua (c 32) (0 : Int).toNat a1) (1 : Int).toNat a2)) 32 (ua (ua (ua (c 32) (0 : Int).toNat a1) (1 : Int).toNat a2) (2 : Int).toNat a3))) _
        refine tt_k 4 (S' := (117, [some (.inr (.inl 30)), some (.inl a1), some (.inl a2), some (.inl a3), some (.inl a4), some (.inl a5), some (.inl j6)], [.inl a4, .inl 3, .inr (.inl 32)], n, D, (us s 3000 j10), p, (uc (uc (uc c 32 (ua (c 32) (0 : Int).toNat a1)) 32 (ua (ua (c 32) (0 : Int).toNat a1) (1 : Int).toNat a2)) 32 (ua (ua (ua (c 32) (0 : Int).toNat a1) (1 : Int).toNat a2) (2 : Int).toNat a3)))) rfl ?_
        refine tt_ist (i := 3) (x := a4) rfl rfl (by omega) ?_
        show tt Zi d 142 (118, [some (.inr (.inl 30)), some (.inl a1), some (.inl a2), some (.inl a3), some (.inl a4), some (.inl a5), some (.inl j6)], [], n, D, (us s 3000 j10), p, (uc (uc (uc (uc c 32 (ua (c 32) (0 : Int).toNat a1)) 32 (ua (ua (c 32) (0 : Int).toNat a1) (1 : Int).toNat a2)) 32 (ua (ua (ua (c 32) (0 : Int).toNat a1) (1 : Int).toNat a2) (2 : Int).toNat a3)) 32 (ua (ua (ua (ua (c 32) (0 : Int).toNat a1) (1 : Int).toNat a2) (2 : Int).toNat a3) (3 : Int).toNat a4))) _
        refine tt_k 4 (S' := (125, [some (.inr (.inl 30)), some (.inl a1), some (.inl a2), some (.inl a3), some (.inl a4), some (.inl a5), some (.inl j6)], [.inl a5, .inl 4, .inr (.inl 32)], n, D, (us s 3000 j10), p, (uc (uc (uc (uc c 32 (ua (c 32) (0 : Int).toNat a1)) 32 (ua (ua (c 32) (0 : Int).toNat a1) (1 : Int).toNat a2)) 32 (ua (ua (ua (c 32) (0 : Int).toNat a1) (1 : Int).toNat a2) (2 : Int).toNat a3)) 32 (ua (ua (ua (ua (c 32) (0 : Int).toNat a1) (1 : Int).toNat a2) (2 : Int).toNat a3) (3 : Int).toNat a4)))) rfl ?_
        refine tt_ist (i := 4) (x := a5) rfl rfl (by omega) ?_
        show tt Zi d 142 (126, [some (.inr (.inl 30)), some (.inl a1), some (.inl a2), some (.inl a3), some (.inl a4), some (.inl a5), some (.inl j6)], [], n, D, (us s 3000 j10), p, (uc (uc (uc (uc (uc c 32 (ua (c 32) (0 : Int).toNat a1)) 32 (ua (ua (c 32) (0 : Int).toNat a1) (1 : Int).toNat a2)) 32 (ua (ua (ua (c 32) (0 : Int).toNat a1) (1 : Int).toNat a2) (2 : Int).toNat a3)) 32 (ua (ua (ua (ua (c 32) (0 : Int).toNat a1) (1 : Int).toNat a2) (2 : Int).toNat a3) (3 : Int).toNat a4)) 32 (ua (ua (ua (ua (ua (c 32) (0 : Int).toNat a1) (1 : Int).toNat a2) (2 : Int).toNat a3) (3 : Int).toNat a4) (4 : Int).toNat a5))) _
        exact tt_rtv rfl rfl ⟨(us s 3000 j10), (uc (uc (uc (uc (uc c 32 (ua (c 32) (0 : Int).toNat a1)) 32 (ua (ua (c 32) (0 : Int).toNat a1) (1 : Int).toNat a2)) 32 (ua (ua (ua (c 32) (0 : Int).toNat a1) (1 : Int).toNat a2) (2 : Int).toNat a3)) 32 (ua (ua (ua (ua (c 32) (0 : Int).toNat a1) (1 : Int).toNat a2) (2 : Int).toNat a3) (3 : Int).toNat a4)) 32 (ua (ua (ua (ua (ua (c 32) (0 : Int).toNat a1) (1 : Int).toNat a2) (2 : Int).toNat a3) (3 : Int).toNat a4) (4 : Int).toNat a5)), rfl, rfl, (bS_us hS (show 0 ≤ j10 ∧ j10 ≤ 2 by omega)), (bC_st (bC_st (bC_st (bC_st (bC_st hC (show 0 ≤ a1 ∧ a1 ≤ 65535 by omega)) (show 0 ≤ a2 ∧ a2 ≤ 65535 by omega)) (show 0 ≤ a3 ∧ a3 ≤ 65535 by omega)) (show 0 ≤ a4 ∧ a4 ≤ 65535 by omega)) (show 0 ≤ a5 ∧ a5 ≤ 65535 by omega)), (fr_us (by decide) fr_rf), (frc_uc (by decide) (frc_uc (by decide) (frc_uc (by decide) (frc_uc (by decide) (frc_uc (by decide) frc_rf))))), by show j10 = if ((0 ≤ a1 ∧ a1 ≤ 65535) ∧ (0 ≤ a2 ∧ a2 ≤ 65535) ∧ (0 ≤ a3 ∧ a3 ≤ 65535) ∧ (0 ≤ a4 ∧ a4 ≤ 65535) ∧ (0 ≤ a5 ∧ a5 ≤ 65535) ∧ a1 ≤ mi_shl 1 (s 3004) - 1) then 0 else 1; first | omega | (split <;> omega) | (split <;> (try split) <;> omega)⟩
      · show tt Zi d 142 (88, [some (.inr (.inl 30)), some (.inl a1), some (.inl a2), some (.inl a3), some (.inl a4), some (.inl a5), some (.inl j6)], [], n, D, (us s 3000 j10), p, c) _
        exact tt_rtv rfl rfl ⟨(us s 3000 j10), c, rfl, rfl, (bS_us hS (show 0 ≤ j10 ∧ j10 ≤ 2 by omega)), hC, (fr_us (by decide) fr_rf), frc_rf, by show j10 = if ((0 ≤ a1 ∧ a1 ≤ 65535) ∧ (0 ≤ a2 ∧ a2 ≤ 65535) ∧ (0 ≤ a3 ∧ a3 ≤ 65535) ∧ (0 ≤ a4 ∧ a4 ≤ 65535) ∧ (0 ≤ a5 ∧ a5 ≤ 65535) ∧ a1 ≤ mi_shl 1 (s 3004) - 1) then 0 else 1; first | omega | (split <;> omega) | (split <;> (try split) <;> omega)⟩
    refine tz_eq (x := j6) rfl rfl (by omega) (fun h15 => ?_) (fun h15 => ?_)
    · show tt Zi d 142 (77, [some (.inr (.inl 30)), some (.inl a1), some (.inl a2), some (.inl a3), some (.inl a4), some (.inl a5), some (.inl j6)], [.inr (.inl 30)], n, D, s, p, c) _
      refine tt_k 1 (S' := (78, [some (.inr (.inl 30)), some (.inl a1), some (.inl a2), some (.inl a3), some (.inl a4), some (.inl a5), some (.inl j6)], [.inl 1, .inr (.inl 30)], n, D, s, p, c)) rfl ?_
      exact K11 1  (by omega) (Or.inl ⟨h15, rfl⟩)
    · show tt Zi d 142 (65, [some (.inr (.inl 30)), some (.inl a1), some (.inl a2), some (.inl a3), some (.inl a4), some (.inl a5), some (.inl j6)], [.inr (.inl 30)], n, D, s, p, c) _
      refine tt_k 2 (S' := (67, [some (.inr (.inl 30)), some (.inl a1), some (.inl a2), some (.inl a3), some (.inl a4), some (.inl a5), some (.inl j6)], [.inr (.inl 30), .inl a1, .inr (.inl 30)], n, D, s, p, c)) rfl ?_
      refine tt_cl (by omega) rfl (k_greatest (Zi := Zi) (D := D) (s := s) (p := p) (c := c) (by omega) hS hC ) ?_
      rintro _ _ ⟨r16, rfl, rfl, b17, k18⟩
      show tt Zi d 142 (70, [some (.inr (.inl 30)), some (.inl a1), some (.inl a2), some (.inl a3), some (.inl a4), some (.inl a5), some (.inl j6)], [.inl r16, .inl a1, .inr (.inl 30)], n, D, s, p, c) _
      replace k18 : r16 = mi_shl 1 ((s 3004)) - 1 := k18
      subst k18
      show tt Zi d 142 (70, [some (.inr (.inl 30)), some (.inl a1), some (.inl a2), some (.inl a3), some (.inl a4), some (.inl a5), some (.inl j6)], [.inl ((mi_shl 1 ((s 3004)) - 1)), .inl a1, .inr (.inl 30)], n, D, s, p, c) _
      refine tb_gt (x := a1) (y := (mi_shl 1 ((s 3004)) - 1)) rfl rfl (by omega) (fun h19 => ?_) (fun h19 => ?_)
      · show tt Zi d 142 (77, [some (.inr (.inl 30)), some (.inl a1), some (.inl a2), some (.inl a3), some (.inl a4), some (.inl a5), some (.inl j6)], [.inr (.inl 30)], n, D, s, p, c) _
        refine tt_k 1 (S' := (78, [some (.inr (.inl 30)), some (.inl a1), some (.inl a2), some (.inl a3), some (.inl a4), some (.inl a5), some (.inl j6)], [.inl 1, .inr (.inl 30)], n, D, s, p, c)) rfl ?_
        exact K11 1  (by omega) (Or.inr (Or.inl ⟨h15, h19, rfl⟩))
      · show tt Zi d 142 (73, [some (.inr (.inl 30)), some (.inl a1), some (.inl a2), some (.inl a3), some (.inl a4), some (.inl a5), some (.inl j6)], [.inr (.inl 30)], n, D, s, p, c) _
        refine tt_k 2 (S' := (78, [some (.inr (.inl 30)), some (.inl a1), some (.inl a2), some (.inl a3), some (.inl a4), some (.inl a5), some (.inl j6)], [.inl 0, .inr (.inl 30)], n, D, s, p, c)) rfl ?_
        exact K11 0  (by omega) (Or.inr (Or.inr (⟨h15, h19, rfl⟩)))
  refine tz_eq (x := (if 0 ≤ a1 ∧ a1 ≤ 65535 then (1 : Int) else 0)) rfl rfl (by omega) (fun h20 => ?_) (fun h20 => ?_)
  · show tt Zi d 142 (56, [some (.inr (.inl 30)), some (.inl a1), some (.inl a2), some (.inl a3), some (.inl a4), some (.inl a5), none], [], n, D, s, p, c) _
    refine tt_k 1 (S' := (57, [some (.inr (.inl 30)), some (.inl a1), some (.inl a2), some (.inl a3), some (.inl a4), some (.inl a5), none], [.inl 0], n, D, s, p, c)) rfl ?_
    exact K7 0  (by omega) (Or.inl ⟨h20, rfl⟩)
  · show tt Zi d 142 (10, [some (.inr (.inl 30)), some (.inl a1), some (.inl a2), some (.inl a3), some (.inl a4), some (.inl a5), none], [], n, D, s, p, c) _
    refine tt_k 3 (S' := (14, [some (.inr (.inl 30)), some (.inl a1), some (.inl a2), some (.inl a3), some (.inl a4), some (.inl a5), none], [.inl 65535, .inl 0, .inl a2], n, D, s, p, c)) rfl ?_
    refine tt_cl (by omega) rfl (k_isIn (Zi := Zi) (D := D) (s := s) (p := p) (c := c) (by omega) hS hC a2 0 65535 (by omega) (by omega) (by omega)) ?_
    rintro _ _ ⟨r21, rfl, rfl, b22, k23⟩
    show tt Zi d 142 (17, [some (.inr (.inl 30)), some (.inl a1), some (.inl a2), some (.inl a3), some (.inl a4), some (.inl a5), none], [.inl r21], n, D, s, p, c) _
    replace k23 : r21 = if 0 ≤ a2 ∧ a2 ≤ 65535 then (1 : Int) else 0 := k23
    subst k23
    show tt Zi d 142 (17, [some (.inr (.inl 30)), some (.inl a1), some (.inl a2), some (.inl a3), some (.inl a4), some (.inl a5), none], [.inl (if 0 ≤ a2 ∧ a2 ≤ 65535 then (1 : Int) else 0)], n, D, s, p, c) _
    refine tz_eq (x := (if 0 ≤ a2 ∧ a2 ≤ 65535 then (1 : Int) else 0)) rfl rfl (by omega) (fun h24 => ?_) (fun h24 => ?_)
    · show tt Zi d 142 (56, [some (.inr (.inl 30)), some (.inl a1), some (.inl a2), some (.inl a3), some (.inl a4), some (.inl a5), none], [], n, D, s, p, c) _
      refine tt_k 1 (S' := (57, [some (.inr (.inl 30)), some (.inl a1), some (.inl a2), some (.inl a3), some (.inl a4), some (.inl a5), none], [.inl 0], n, D, s, p, c)) rfl ?_
      exact K7 0  (by omega) (Or.inr (Or.inl ⟨h20, h24, rfl⟩))
    · show tt Zi d 142 (20, [some (.inr (.inl 30)), some (.inl a1), some (.inl a2), some (.inl a3), some (.inl a4), some (.inl a5), none], [], n, D, s, p, c) _
      refine tt_k 3 (S' := (24, [some (.inr (.inl 30)), some (.inl a1), some (.inl a2), some (.inl a3), some (.inl a4), some (.inl a5), none], [.inl 65535, .inl 0, .inl a3], n, D, s, p, c)) rfl ?_
      refine tt_cl (by omega) rfl (k_isIn (Zi := Zi) (D := D) (s := s) (p := p) (c := c) (by omega) hS hC a3 0 65535 (by omega) (by omega) (by omega)) ?_
      rintro _ _ ⟨r25, rfl, rfl, b26, k27⟩
      show tt Zi d 142 (27, [some (.inr (.inl 30)), some (.inl a1), some (.inl a2), some (.inl a3), some (.inl a4), some (.inl a5), none], [.inl r25], n, D, s, p, c) _
      replace k27 : r25 = if 0 ≤ a3 ∧ a3 ≤ 65535 then (1 : Int) else 0 := k27
      subst k27
      show tt Zi d 142 (27, [some (.inr (.inl 30)), some (.inl a1), some (.inl a2), some (.inl a3), some (.inl a4), some (.inl a5), none], [.inl (if 0 ≤ a3 ∧ a3 ≤ 65535 then (1 : Int) else 0)], n, D, s, p, c) _
      refine tz_eq (x := (if 0 ≤ a3 ∧ a3 ≤ 65535 then (1 : Int) else 0)) rfl rfl (by omega) (fun h28 => ?_) (fun h28 => ?_)
      · show tt Zi d 142 (56, [some (.inr (.inl 30)), some (.inl a1), some (.inl a2), some (.inl a3), some (.inl a4), some (.inl a5), none], [], n, D, s, p, c) _
        refine tt_k 1 (S' := (57, [some (.inr (.inl 30)), some (.inl a1), some (.inl a2), some (.inl a3), some (.inl a4), some (.inl a5), none], [.inl 0], n, D, s, p, c)) rfl ?_
        exact K7 0  (by omega) (Or.inr (Or.inr (Or.inl ⟨h20, h24, h28, rfl⟩)))
      · show tt Zi d 142 (30, [some (.inr (.inl 30)), some (.inl a1), some (.inl a2), some (.inl a3), some (.inl a4), some (.inl a5), none], [], n, D, s, p, c) _
        refine tt_k 3 (S' := (35, [some (.inr (.inl 30)), some (.inl a1), some (.inl a2), some (.inl a3), some (.inl a4), some (.inl a5), none], [.inl 65535, .inl 0, .inl a4], n, D, s, p, c)) rfl ?_
        refine tt_cl (by omega) rfl (k_isIn (Zi := Zi) (D := D) (s := s) (p := p) (c := c) (by omega) hS hC a4 0 65535 (by omega) (by omega) (by omega)) ?_
        rintro _ _ ⟨r29, rfl, rfl, b30, k31⟩
        show tt Zi d 142 (38, [some (.inr (.inl 30)), some (.inl a1), some (.inl a2), some (.inl a3), some (.inl a4), some (.inl a5), none], [.inl r29], n, D, s, p, c) _
        replace k31 : r29 = if 0 ≤ a4 ∧ a4 ≤ 65535 then (1 : Int) else 0 := k31
        subst k31
        show tt Zi d 142 (38, [some (.inr (.inl 30)), some (.inl a1), some (.inl a2), some (.inl a3), some (.inl a4), some (.inl a5), none], [.inl (if 0 ≤ a4 ∧ a4 ≤ 65535 then (1 : Int) else 0)], n, D, s, p, c) _
        refine tz_eq (x := (if 0 ≤ a4 ∧ a4 ≤ 65535 then (1 : Int) else 0)) rfl rfl (by omega) (fun h32 => ?_) (fun h32 => ?_)
        · show tt Zi d 142 (56, [some (.inr (.inl 30)), some (.inl a1), some (.inl a2), some (.inl a3), some (.inl a4), some (.inl a5), none], [], n, D, s, p, c) _
          refine tt_k 1 (S' := (57, [some (.inr (.inl 30)), some (.inl a1), some (.inl a2), some (.inl a3), some (.inl a4), some (.inl a5), none], [.inl 0], n, D, s, p, c)) rfl ?_
          exact K7 0  (by omega) (Or.inr (Or.inr (Or.inr (Or.inl ⟨h20, h24, h28, h32, rfl⟩))))
        · show tt Zi d 142 (41, [some (.inr (.inl 30)), some (.inl a1), some (.inl a2), some (.inl a3), some (.inl a4), some (.inl a5), none], [], n, D, s, p, c) _
          refine tt_k 3 (S' := (46, [some (.inr (.inl 30)), some (.inl a1), some (.inl a2), some (.inl a3), some (.inl a4), some (.inl a5), none], [.inl 65535, .inl 0, .inl a5], n, D, s, p, c)) rfl ?_
          refine tt_cl (by omega) rfl (k_isIn (Zi := Zi) (D := D) (s := s) (p := p) (c := c) (by omega) hS hC a5 0 65535 (by omega) (by omega) (by omega)) ?_
          rintro _ _ ⟨r33, rfl, rfl, b34, k35⟩
          show tt Zi d 142 (49, [some (.inr (.inl 30)), some (.inl a1), some (.inl a2), some (.inl a3), some (.inl a4), some (.inl a5), none], [.inl r33], n, D, s, p, c) _
          replace k35 : r33 = if 0 ≤ a5 ∧ a5 ≤ 65535 then (1 : Int) else 0 := k35
          subst k35
          show tt Zi d 142 (49, [some (.inr (.inl 30)), some (.inl a1), some (.inl a2), some (.inl a3), some (.inl a4), some (.inl a5), none], [.inl (if 0 ≤ a5 ∧ a5 ≤ 65535 then (1 : Int) else 0)], n, D, s, p, c) _
          refine tz_eq (x := (if 0 ≤ a5 ∧ a5 ≤ 65535 then (1 : Int) else 0)) rfl rfl (by omega) (fun h36 => ?_) (fun h36 => ?_)
          · show tt Zi d 142 (56, [some (.inr (.inl 30)), some (.inl a1), some (.inl a2), some (.inl a3), some (.inl a4), some (.inl a5), none], [], n, D, s, p, c) _
            refine tt_k 1 (S' := (57, [some (.inr (.inl 30)), some (.inl a1), some (.inl a2), some (.inl a3), some (.inl a4), some (.inl a5), none], [.inl 0], n, D, s, p, c)) rfl ?_
            exact K7 0  (by omega) (Or.inr (Or.inr (Or.inr (Or.inr (Or.inl ⟨h20, h24, h28, h32, h36, rfl⟩)))))
          · show tt Zi d 142 (52, [some (.inr (.inl 30)), some (.inl a1), some (.inl a2), some (.inl a3), some (.inl a4), some (.inl a5), none], [], n, D, s, p, c) _
            refine tt_k 2 (S' := (57, [some (.inr (.inl 30)), some (.inl a1), some (.inl a2), some (.inl a3), some (.inl a4), some (.inl a5), none], [.inl 1], n, D, s, p, c)) rfl ?_
            exact K7 1  (by omega) (Or.inr (Or.inr (Or.inr (Or.inr (Or.inr (⟨h20, h24, h28, h32, h36, rfl⟩))))))
