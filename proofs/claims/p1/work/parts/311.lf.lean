def mm_fw11f0 (x11 : Value) : List Value := [.ref 1, .ref 3, .ref 4, .ref 6, .ref 8, .ref 9, .ref 12, .ref 17, .ref 25, .ref 27, .int 0, x11]
def mm_fw11f20 (x5 x6 : Value) : List Value := [.ref 6, .int 0, .int 0, .int 0, .int (-1), x5, x6]
def mm_fw11f30 (x50 x51 : Value) : List Value := [.int 0, .int 8, .int 8, .int 1, .int 8, .ref 31, .ref 32, .int 0, .int 0, .int 0, .int 0, .int 0, .ref 33, .ref 34, .int 0, .ref 35, .int 0, .int 0, .int 0, .int 0, .int 0, .int 0, .int 0, .int 0, .int 0, .int 0, .int 0, .ref 36, .ref 37, .ref 38, .ref 39, .ref 40, .ref 41, .ref 42, .ref 43, .int 0, .int 0, .int 0, .int 0, .int 0, .ref 44, .int 0, .int 0, .int 0, .int 0, .int 0, .int 0, .int 0, .int 0, .int 0, x50, x51, .int 0, .int 0, .int 0, .ref 45, .ref 46, .int 0, .int 0, .int 0, .int 0, .int 0, .int 0]
def mm_fw11 (x0 x17 x20 x30 x46 : mm_E) (t : mm_W) : mm_W := x0 :: .inr (2, mm_f1) :: mm_zi 0 :: mm_zi 5 :: .inr (1, mm_f4) :: mm_zb 64 :: .inr (1, mm_f6) :: mm_zb 64 :: .inr (3, mm_f8) :: .inr (4, mm_f9) :: mm_zi 1468 :: mm_zi 1468 :: .inr (5, mm_f12) :: mm_zi 66 :: mm_zi 66 :: mm_zi 0 :: .inr (7, mm_f16) :: x17 :: mm_zi 5 :: mm_zi 3 :: x20 :: .inr (6, mm_f21) :: mm_zi 66 :: mm_zi 66 :: mm_zi 0 :: .inr (2, mm_f25) :: mm_zi 0 :: .inr (2, mm_f27) :: mm_zi 0 :: mm_zi 64 :: x30 :: mm_zi 12288 :: mm_zi 5 :: mm_zi 12288 :: mm_zb 32768 :: mm_zb 65536 :: mm_zi 367 :: mm_zi 367 :: mm_zi 367 :: mm_zi 367 :: mm_zi 367 :: mm_zi 367 :: mm_zi 367 :: mm_zi 367 :: mm_zi 12288 :: mm_zi 3 :: x46 :: .inl (.long, 1, .inr (.inl (fun _ => 0))) :: t

set_option maxRecDepth 100000 in
set_option maxHeartbeats 4000000 in
theorem mm_lf11_0 (xs : Nat → Int32)  : mm_Ok xs 859 := by
  refine mm_Ok_of (w' := ((((((mm_w0.set 0 (.inr (0, (mm_f0.set 11 (.int 0))))).set 17 (.inr (9, mm_f17))).set 20 (.inr (8, ((mm_f20.set 5 (.int 1)).set 6 (.int 0))))).set 30 (.inr (10, ((mm_f30.set 50 (.int 1)).set 51 (.int 0))))).set 46 (.inl (.int, 5, .inl (upd (upd (upd (upd (upd (fun _ => 0) 0 0) 1 0) 2 0) 3 0) 4 0)))) ++ [.inr (12, [])])) (mm_szP 6 (mm_szS 5 (mm_szS 63 (mm_szS 7 (mm_szS 7 (mm_szS 12 mm_sz0 rfl) rfl) rfl) rfl) rfl) rfl) rfl rfl ?_
  refine mm_xk (S' := (860, [some (.ref 1000004), some (.ref 0), some (.ref 30), some (.ref 47), some (.int 0), none, none], [.ref 0], (mm_fw11 (.inr (0, mm_fw11f0 (.int (-1)))) (.inr (9, mm_f17)) (.inr (8, mm_fw11f20 (.int 0) (.int (-1)))) (.inr (10, mm_fw11f30 (.int 0) (.int (-1)))) (mm_zi 5) []))) 1 3000 rfl ?_
  refine mm_xcl (v := (some (.int 1))) (w1 := (mm_fw11 (.inr (0, mm_fw11f0 (.int 0))) (.inr (9, mm_f17)) (.inr (8, mm_fw11f20 (.int 1) (.int 0))) (.inr (10, mm_fw11f30 (.int 0) (.int (-1)))) (mm_zi 5) [.inr (12, [])])) rfl ?_ ?_
  · skip
    refine mm_xk (S' := (8, [some (.ref 0), none], [.ref 27, .ref 17], (mm_fw11 (.inr (0, mm_fw11f0 (.int (-1)))) (.inr (9, mm_f17)) (.inr (8, mm_fw11f20 (.int 0) (.int (-1)))) (.inr (10, mm_fw11f30 (.int 0) (.int (-1)))) (mm_zi 5) []))) 4 3000 rfl ?_
    refine mm_xct (x := 12) (hp := 14) (w1 := (mm_fw11 (.inr (0, mm_fw11f0 (.int (-1)))) (.inr (9, mm_f17)) (.inr (8, mm_fw11f20 (.int 1) (.int 0))) (.inr (10, mm_fw11f30 (.int 0) (.int (-1)))) (mm_zi 5) [.inr (12, [])])) rfl ?_ rfl ?_
    · skip
      refine mm_xk (S' := (12, [some (.ref 17), some (.ref 27), none, none], [], (mm_fw11 (.inr (0, mm_fw11f0 (.int (-1)))) (.inr (9, mm_f17)) (.inr (8, mm_fw11f20 (.int 0) (.int (-1)))) (.inr (10, mm_fw11f30 (.int 0) (.int (-1)))) (mm_zi 5) []))) 6 3000 rfl ?_
      refine mm_xk (S' := (17, [some (.ref 17), some (.ref 27), none, none], [], (mm_fw11 (.inr (0, mm_fw11f0 (.int (-1)))) (.inr (9, mm_f17)) (.inr (8, mm_fw11f20 (.int 0) (.int (-1)))) (.inr (10, mm_fw11f30 (.int 0) (.int (-1)))) (mm_zi 5) []))) 3 3000 rfl ?_
      refine mm_xk (S' := (22, [some (.ref 17), some (.ref 27), none, none], [.int 0, .ref 18], (mm_fw11 (.inr (0, mm_fw11f0 (.int (-1)))) (.inr (9, mm_f17)) (.inr (8, mm_fw11f20 (.int 0) (.int (-1)))) (.inr (10, mm_fw11f30 (.int 0) (.int (-1)))) (mm_zi 5) []))) 3 3000 rfl ?_
      refine mm_xcl (v := none) (w1 := (mm_fw11 (.inr (0, mm_fw11f0 (.int (-1)))) (.inr (9, mm_f17)) (.inr (8, mm_fw11f20 (.int 0) (.int (-1)))) (.inr (10, mm_fw11f30 (.int 0) (.int (-1)))) (mm_zi 5) [])) rfl (mm_fill0 (n := 5) rfl rfl) ?_
      refine mm_xk (S' := (29, [some (.ref 17), some (.ref 27), none, none], [.ref 20], (mm_fw11 (.inr (0, mm_fw11f0 (.int (-1)))) (.inr (9, mm_f17)) (.inr (8, mm_fw11f20 (.int 0) (.int (-1)))) (.inr (10, mm_fw11f30 (.int 0) (.int (-1)))) (mm_zi 5) []))) 2 3000 rfl ?_
      refine mm_xth (Z := mm_Z 9 xs) (M := 16) (pc := 29) (x := 12) (T := 18) (ls0 := [some (.ref 20), none, none]) (rest := []) (w1 := (mm_fw11 (.inr (0, mm_fw11f0 (.int (-1)))) (.inr (9, mm_f17)) (.inr (8, mm_fw11f20 (.int 1) (.int 0))) (.inr (10, mm_fw11f30 (.int 0) (.int (-1)))) (mm_zi 5) [.inr (12, [])])) ?_ ?_ ?_
      rfl
      rotate_left
      rfl
      refine mm_xk (S' := (1, [some (.ref 20), none, none], [.ref 20], (mm_fw11 (.inr (0, mm_fw11f0 (.int (-1)))) (.inr (9, mm_f17)) (.inr (8, mm_fw11f20 (.int 0) (.int (-1)))) (.inr (10, mm_fw11f30 (.int 0) (.int (-1)))) (mm_zi 5) []))) 1 3000 rfl ?_
      refine mm_xth (Z := mm_Z 9 xs) (M := 18) (pc := 1) (x := 12) (T := 19) (ls0 := [some (.ref 20), none]) (rest := []) (w1 := (mm_fw11 (.inr (0, mm_fw11f0 (.int (-1)))) (.inr (9, mm_f17)) (.inr (8, mm_fw11f20 (.int 1) (.int 0))) (.inr (10, mm_fw11f30 (.int 0) (.int (-1)))) (mm_zi 5) [.inr (12, [])])) ?_ ?_ ?_
      rfl
      rotate_left
      rfl
      refine mm_xk (S' := (23, [some (.ref 20), none], [.int 0, .int 1, .ref 20], (mm_fw11 (.inr (0, mm_fw11f0 (.int (-1)))) (.inr (9, mm_f17)) (.inr (8, mm_fw11f20 (.int 0) (.int (-1)))) (.inr (10, mm_fw11f30 (.int 0) (.int (-1)))) (mm_zi 5) []))) 11 3000 rfl ?_
      refine mm_xth (Z := mm_Z 9 xs) (M := 19) (pc := 23) (x := 12) (T := 20) (ls0 := [some (.ref 20), some (.int 1), some (.int 0)]) (rest := []) (w1 := (mm_fw11 (.inr (0, mm_fw11f0 (.int (-1)))) (.inr (9, mm_f17)) (.inr (8, mm_fw11f20 (.int 1) (.int 0))) (.inr (10, mm_fw11f30 (.int 0) (.int (-1)))) (mm_zi 5) [.inr (12, [])])) ?_ ?_ ?_
      rfl
      rotate_left
      rfl
      refine mm_xk (S' := (5, [some (.ref 20), some (.int 1), some (.int 0)], [], (mm_fw11 (.inr (0, mm_fw11f0 (.int (-1)))) (.inr (9, mm_f17)) (.inr (8, mm_fw11f20 (.int 1) (.int (-1)))) (.inr (10, mm_fw11f30 (.int 0) (.int (-1)))) (mm_zi 5) []))) 3 3000 rfl ?_
      refine mm_xk (S' := (10, [some (.ref 20), some (.int 1), some (.int 0)], [], (mm_fw11 (.inr (0, mm_fw11f0 (.int (-1)))) (.inr (9, mm_f17)) (.inr (8, mm_fw11f20 (.int 1) (.int 0))) (.inr (10, mm_fw11f30 (.int 0) (.int (-1)))) (mm_zi 5) []))) 3 3000 rfl ?_
      exact mm_xfn rfl
    refine mm_xk (S' := (29, [some (.ref 0), some (.ref 48)], [], (mm_fw11 (.inr (0, mm_fw11f0 (.int 0))) (.inr (9, mm_f17)) (.inr (8, mm_fw11f20 (.int 1) (.int 0))) (.inr (10, mm_fw11f30 (.int 0) (.int (-1)))) (mm_zi 5) [.inr (12, [])]))) 7 3000 rfl ?_
    refine mm_xk (S' := (39, [some (.ref 0), some (.ref 48)], [.int 1], (mm_fw11 (.inr (0, mm_fw11f0 (.int 0))) (.inr (9, mm_f17)) (.inr (8, mm_fw11f20 (.int 1) (.int 0))) (.inr (10, mm_fw11f30 (.int 0) (.int (-1)))) (mm_zi 5) [.inr (12, [])]))) 4 3000 rfl ?_
    exact mm_xfn rfl
  refine mm_xk (S' := (1092, [some (.ref 1000004), some (.ref 0), some (.ref 30), some (.ref 47), some (.int 9), none, none], [], (mm_fw11 (.inr (0, mm_fw11f0 (.int 0))) (.inr (9, mm_f17)) (.inr (8, mm_fw11f20 (.int 1) (.int 0))) (.inr (10, mm_fw11f30 (.int 1) (.int 0))) (.inl (.int, 5, .inl (upd (upd (upd (upd (upd (fun _ => 0) 0 0) 1 0) 2 0) 3 0) 4 0))) [.inr (12, [])]))) 4 3000 rfl ?_
  refine mm_xk (S' := (1096, [some (.ref 1000004), some (.ref 0), some (.ref 30), some (.ref 47), some (.int 9), none, none], [.int 1], (mm_fw11 (.inr (0, mm_fw11f0 (.int 0))) (.inr (9, mm_f17)) (.inr (8, mm_fw11f20 (.int 1) (.int 0))) (.inr (10, mm_fw11f30 (.int 1) (.int 0))) (.inl (.int, 5, .inl (upd (upd (upd (upd (upd (fun _ => 0) 0 0) 1 0) 2 0) 3 0) 4 0))) [.inr (12, [])]))) 8 3000 rfl ?_
  exact mm_xfn rfl
