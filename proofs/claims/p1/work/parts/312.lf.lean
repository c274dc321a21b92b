def mm_fw12 (x30 : mm_E) (t : mm_W) : mm_W := .inr (0, mm_f0) :: .inr (2, mm_f1) :: mm_zi 0 :: mm_zi 5 :: .inr (1, mm_f4) :: mm_zb 64 :: .inr (1, mm_f6) :: mm_zb 64 :: .inr (3, mm_f8) :: .inr (4, mm_f9) :: mm_zi 1468 :: mm_zi 1468 :: .inr (5, mm_f12) :: mm_zi 66 :: mm_zi 66 :: mm_zi 0 :: .inr (7, mm_f16) :: .inr (9, mm_f17) :: mm_zi 5 :: mm_zi 3 :: .inr (8, mm_f20) :: .inr (6, mm_f21) :: mm_zi 66 :: mm_zi 66 :: mm_zi 0 :: .inr (2, mm_f25) :: mm_zi 0 :: .inr (2, mm_f27) :: mm_zi 0 :: mm_zi 64 :: x30 :: mm_zi 12288 :: mm_zi 5 :: mm_zi 12288 :: mm_zb 32768 :: mm_zb 65536 :: mm_zi 367 :: mm_zi 367 :: mm_zi 367 :: mm_zi 367 :: mm_zi 367 :: mm_zi 367 :: mm_zi 367 :: mm_zi 367 :: mm_zi 12288 :: mm_zi 3 :: mm_zi 5 :: .inl (.long, 1, .inr (.inl (fun _ => 0))) :: t

set_option maxRecDepth 100000 in
set_option maxHeartbeats 4000000 in
theorem mm_lf12_0 (xs : Nat → Int32)  : mm_Ok xs 872 := by
  refine mm_Ok_of (w' := (mm_w0.set 30 (.inr (10, mm_f30)))) (mm_szS 63 mm_sz0 rfl) rfl rfl ?_
  refine mm_xk (S' := (1092, [some (.ref 1000004), some (.ref 0), some (.ref 30), some (.ref 47), some (.int 9), none, none], [], (mm_fw12 (.inr (10, mm_f30)) []))) 6 3000 rfl ?_
  refine mm_xk (S' := (1096, [some (.ref 1000004), some (.ref 0), some (.ref 30), some (.ref 47), some (.int 9), none, none], [.int 1], (mm_fw12 (.inr (10, mm_f30)) []))) 8 3000 rfl ?_
  exact mm_xfn rfl
