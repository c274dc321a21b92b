def mm_fw3f30 (x0 : Value) : List Value := [x0, .int 8, .int 8, .int 1, .int 8, .ref 31, .ref 32, .int 0, .int 0, .int 0, .int 0, .int 0, .ref 33, .ref 34, .int 0, .ref 35, .int 0, .int 0, .int 0, .int 0, .int 0, .int 0, .int 0, .int 0, .int 0, .int 0, .int 0, .ref 36, .ref 37, .ref 38, .ref 39, .ref 40, .ref 41, .ref 42, .ref 43, .int 0, .int 0, .int 0, .int 0, .int 0, .ref 44, .int 0, .int 0, .int 0, .int 0, .int 0, .int 0, .int 0, .int 0, .int 0, .int 0, .int (-1), .int 0, .int 0, .int 0, .ref 45, .ref 46, .int 0, .int 0, .int 0, .int 0, .int 0, .int 0]
def mm_fw3 (x3 x30 x32 : mm_E) (t : mm_W) : mm_W := .inr (0, mm_f0) :: .inr (2, mm_f1) :: mm_zi 0 :: x3 :: .inr (1, mm_f4) :: mm_zb 64 :: .inr (1, mm_f6) :: mm_zb 64 :: .inr (3, mm_f8) :: .inr (4, mm_f9) :: mm_zi 1468 :: mm_zi 1468 :: .inr (5, mm_f12) :: mm_zi 66 :: mm_zi 66 :: mm_zi 0 :: .inr (7, mm_f16) :: .inr (9, mm_f17) :: mm_zi 5 :: mm_zi 3 :: .inr (8, mm_f20) :: .inr (6, mm_f21) :: mm_zi 66 :: mm_zi 66 :: mm_zi 0 :: .inr (2, mm_f25) :: mm_zi 0 :: .inr (2, mm_f27) :: mm_zi 0 :: mm_zi 64 :: x30 :: mm_zi 12288 :: x32 :: mm_zi 12288 :: mm_zb 32768 :: mm_zb 65536 :: mm_zi 367 :: mm_zi 367 :: mm_zi 367 :: mm_zi 367 :: mm_zi 367 :: mm_zi 367 :: mm_zi 367 :: mm_zi 367 :: mm_zi 12288 :: mm_zi 3 :: mm_zi 5 :: .inl (.long, 1, .inr (.inl (fun _ => 0))) :: t

set_option maxRecDepth 100000 in
set_option maxHeartbeats 4000000 in
theorem mm_lf3_0 (xs : Nat → Int32) (l1 : 65536 ≤ (xs 1).toInt) : mm_Ok xs 398 := by
  refine mm_Ok_of (w' := ((mm_w0.set 30 (.inr (10, (mm_f30.set 0 (.int 1))))) ++ [.inr (11, [])])) (mm_szP 6 (mm_szS 63 mm_sz0 rfl) rfl) rfl rfl ?_
  refine mm_xk (S' := (429, [some (.ref 1000004), some (.ref 0), some (.ref 30), some (.ref 47), some (.int 0), none, none], [.int (xs 5), .int (xs 4), .int (xs 3), .int (xs 2), .int (xs 1), .ref 0], (mm_fw3 (mm_zi 5) (.inr (10, mm_fw3f30 (.int 0))) (mm_zi 5) []))) 26 3000 rfl ?_
  refine mm_xcl (v := (some (.int 1))) (w1 := (mm_fw3 (mm_zi 5) (.inr (10, mm_fw3f30 (.int 0))) (mm_zi 5) [.inr (11, [])])) rfl ?_ ?_
  · skip
    refine mm_xk (S' := (8, [some (.ref 0), some (.int (xs 1)), some (.int (xs 2)), some (.int (xs 3)), some (.int (xs 4)), some (.int (xs 5)), none], [.int (xs 5), .int (xs 4), .int (xs 3), .int (xs 2), .int (xs 1), .ref 0], (mm_fw3 (mm_zi 5) (.inr (10, mm_fw3f30 (.int 0))) (mm_zi 5) []))) 6 3000 rfl ?_
    refine mm_xct (x := 11) (hp := 14) (w1 := (mm_fw3 (mm_zi 5) (.inr (10, mm_fw3f30 (.int 0))) (mm_zi 5) [.inr (11, [])])) rfl ?_ rfl ?_
    · skip
      refine mm_xk (S' := (1, [some (.ref 0), some (.int (xs 1)), some (.int (xs 2)), some (.int (xs 3)), some (.int (xs 4)), some (.int (xs 5))], [.int (xs 1)], (mm_fw3 (mm_zi 5) (.inr (10, mm_fw3f30 (.int 0))) (mm_zi 5) []))) 1 3000 rfl ?_
      refine mm_xcl (v := (some (.int 0))) (w1 := (mm_fw3 (mm_zi 5) (.inr (10, mm_fw3f30 (.int 0))) (mm_zi 5) [])) rfl ?_ ?_
      · skip
        refine mm_xk (S' := (1, [some (.int (xs 1))], [.int (xs 1)], (mm_fw3 (mm_zi 5) (.inr (10, mm_fw3f30 (.int 0))) (mm_zi 5) []))) 1 3000 rfl ?_
        refine mm_xif1 rfl false (mm_lt0 (a := (xs 1).toInt) (b := 0) rfl rfl (by omega)) rfl ?_
        refine mm_xk (S' := (7, [some (.int (xs 1))], [.int 65535, .int (xs 1)], (mm_fw3 (mm_zi 5) (.inr (10, mm_fw3f30 (.int 0))) (mm_zi 5) []))) 2 3000 rfl ?_
        refine mm_xif2 rfl true (mm_gt1 (a := (xs 1).toInt) (b := 65535) rfl rfl (by omega)) rfl ?_
        refine mm_xk (S' := (15, [some (.int (xs 1))], [.int 0], (mm_fw3 (mm_zi 5) (.inr (10, mm_fw3f30 (.int 0))) (mm_zi 5) []))) 1 3000 rfl ?_
        exact mm_xfn rfl
      refine mm_xk (S' := (48, [some (.ref 0), some (.int (xs 1)), some (.int (xs 2)), some (.int (xs 3)), some (.int (xs 4)), some (.int (xs 5))], [], (mm_fw3 (mm_zi 5) (.inr (10, mm_fw3f30 (.int 0))) (mm_zi 5) []))) 1 3000 rfl ?_
      exact mm_xfn rfl
    refine mm_xk (S' := (17, [some (.ref 0), some (.int (xs 1)), some (.int (xs 2)), some (.int (xs 3)), some (.int (xs 4)), some (.int (xs 5)), some (.ref 48)], [.int 1], (mm_fw3 (mm_zi 5) (.inr (10, mm_fw3f30 (.int 0))) (mm_zi 5) [.inr (11, [])]))) 2 3000 rfl ?_
    exact mm_xfn rfl
  refine mm_xk (S' := (465, [some (.ref 1000004), some (.ref 0), some (.ref 30), some (.ref 47), some (.int 0), some (.int 1), none], [.int (xs 5), .int (xs 4), .int (xs 3), .int (xs 2), .int (xs 1), .ref 30], (mm_fw3 (mm_zi 5) (.inr (10, mm_fw3f30 (.int 0))) (mm_zi 5) [.inr (11, [])]))) 27 3000 rfl ?_
  refine mm_xcl (v := none) (w1 := (mm_fw3 (mm_zi 5) (.inr (10, mm_fw3f30 (.int 1))) (mm_zi 5) [.inr (11, [])])) rfl ?_ ?_
  · skip
    refine mm_xk (S' := (4, [some (.ref 30), some (.int (xs 1)), some (.int (xs 2)), some (.int (xs 3)), some (.int (xs 4)), some (.int (xs 5)), none], [.int 65535, .int 0, .int (xs 1)], (mm_fw3 (mm_zi 5) (.inr (10, mm_fw3f30 (.int 0))) (mm_zi 5) [.inr (11, [])]))) 3 3000 rfl ?_
    refine mm_xcl (v := (some (.int 0))) (w1 := (mm_fw3 (mm_zi 5) (.inr (10, mm_fw3f30 (.int 0))) (mm_zi 5) [.inr (11, [])])) rfl ?_ ?_
    · skip
      refine mm_xk (S' := (2, [some (.int (xs 1)), some (.int 0), some (.int 65535)], [.int 0, .int (xs 1)], (mm_fw3 (mm_zi 5) (.inr (10, mm_fw3f30 (.int 0))) (mm_zi 5) [.inr (11, [])]))) 2 3000 rfl ?_
      refine mm_xif2 rfl false (mm_lt0 (a := (xs 1).toInt) (b := 0) rfl rfl (by omega)) rfl ?_
      refine mm_xk (S' := (7, [some (.int (xs 1)), some (.int 0), some (.int 65535)], [.int 65535, .int (xs 1)], (mm_fw3 (mm_zi 5) (.inr (10, mm_fw3f30 (.int 0))) (mm_zi 5) [.inr (11, [])]))) 2 3000 rfl ?_
      refine mm_xif2 rfl true (mm_gt1 (a := (xs 1).toInt) (b := 65535) rfl rfl (by omega)) rfl ?_
      refine mm_xk (S' := (15, [some (.int (xs 1)), some (.int 0), some (.int 65535)], [.int 0], (mm_fw3 (mm_zi 5) (.inr (10, mm_fw3f30 (.int 0))) (mm_zi 5) [.inr (11, [])]))) 1 3000 rfl ?_
      exact mm_xfn rfl
    refine mm_xk (S' := (81, [some (.ref 30), some (.int (xs 1)), some (.int (xs 2)), some (.int (xs 3)), some (.int (xs 4)), some (.int (xs 5)), some (.int 0)], [], (mm_fw3 (mm_zi 5) (.inr (10, mm_fw3f30 (.int 1))) (mm_zi 5) [.inr (11, [])]))) 8 3000 rfl ?_
    refine mm_xk (S' := (88, [some (.ref 30), some (.int (xs 1)), some (.int (xs 2)), some (.int (xs 3)), some (.int (xs 4)), some (.int (xs 5)), some (.int 0)], [], (mm_fw3 (mm_zi 5) (.inr (10, mm_fw3f30 (.int 1))) (mm_zi 5) [.inr (11, [])]))) 3 3000 rfl ?_
    exact mm_xfn rfl
  refine mm_xk (S' := (1092, [some (.ref 1000004), some (.ref 0), some (.ref 30), some (.ref 47), some (.int 9), some (.int 1), none], [], (mm_fw3 (mm_zi 5) (.inr (10, mm_fw3f30 (.int 1))) (mm_zi 5) [.inr (11, [])]))) 6 3000 rfl ?_
  refine mm_xk (S' := (1096, [some (.ref 1000004), some (.ref 0), some (.ref 30), some (.ref 47), some (.int 9), some (.int 1), none], [.int 1], (mm_fw3 (mm_zi 5) (.inr (10, mm_fw3f30 (.int 1))) (mm_zi 5) [.inr (11, [])]))) 8 3000 rfl ?_
  exact mm_xfn rfl
set_option maxRecDepth 100000 in
set_option maxHeartbeats 4000000 in
theorem mm_lf3_1 (xs : Nat → Int32) (l1 : 0 ≤ (xs 1).toInt) (u1 : (xs 1).toInt ≤ 65535) (l2 : 65536 ≤ (xs 2).toInt) : mm_Ok xs 398 := by
  refine mm_Ok_of (w' := ((mm_w0.set 30 (.inr (10, (mm_f30.set 0 (.int 1))))) ++ [.inr (11, [])])) (mm_szP 6 (mm_szS 63 mm_sz0 rfl) rfl) rfl rfl ?_
  refine mm_xk (S' := (429, [some (.ref 1000004), some (.ref 0), some (.ref 30), some (.ref 47), some (.int 0), none, none], [.int (xs 5), .int (xs 4), .int (xs 3), .int (xs 2), .int (xs 1), .ref 0], (mm_fw3 (mm_zi 5) (.inr (10, mm_fw3f30 (.int 0))) (mm_zi 5) []))) 26 3000 rfl ?_
  refine mm_xcl (v := (some (.int 1))) (w1 := (mm_fw3 (mm_zi 5) (.inr (10, mm_fw3f30 (.int 0))) (mm_zi 5) [.inr (11, [])])) rfl ?_ ?_
  · skip
    refine mm_xk (S' := (8, [some (.ref 0), some (.int (xs 1)), some (.int (xs 2)), some (.int (xs 3)), some (.int (xs 4)), some (.int (xs 5)), none], [.int (xs 5), .int (xs 4), .int (xs 3), .int (xs 2), .int (xs 1), .ref 0], (mm_fw3 (mm_zi 5) (.inr (10, mm_fw3f30 (.int 0))) (mm_zi 5) []))) 6 3000 rfl ?_
    refine mm_xct (x := 11) (hp := 14) (w1 := (mm_fw3 (mm_zi 5) (.inr (10, mm_fw3f30 (.int 0))) (mm_zi 5) [.inr (11, [])])) rfl ?_ rfl ?_
    · skip
      refine mm_xk (S' := (1, [some (.ref 0), some (.int (xs 1)), some (.int (xs 2)), some (.int (xs 3)), some (.int (xs 4)), some (.int (xs 5))], [.int (xs 1)], (mm_fw3 (mm_zi 5) (.inr (10, mm_fw3f30 (.int 0))) (mm_zi 5) []))) 1 3000 rfl ?_
      refine mm_xcl (v := (some (.int 1))) (w1 := (mm_fw3 (mm_zi 5) (.inr (10, mm_fw3f30 (.int 0))) (mm_zi 5) [])) rfl ?_ ?_
      · skip
        refine mm_xk (S' := (1, [some (.int (xs 1))], [.int (xs 1)], (mm_fw3 (mm_zi 5) (.inr (10, mm_fw3f30 (.int 0))) (mm_zi 5) []))) 1 3000 rfl ?_
        refine mm_xif1 rfl false (mm_lt0 (a := (xs 1).toInt) (b := 0) rfl rfl (by omega)) rfl ?_
        refine mm_xk (S' := (7, [some (.int (xs 1))], [.int 65535, .int (xs 1)], (mm_fw3 (mm_zi 5) (.inr (10, mm_fw3f30 (.int 0))) (mm_zi 5) []))) 2 3000 rfl ?_
        refine mm_xif2 rfl false (mm_gt0 (a := (xs 1).toInt) (b := 65535) rfl rfl (by omega)) rfl ?_
        refine mm_xk (S' := (15, [some (.int (xs 1))], [.int 1], (mm_fw3 (mm_zi 5) (.inr (10, mm_fw3f30 (.int 0))) (mm_zi 5) []))) 2 3000 rfl ?_
        exact mm_xfn rfl
      refine mm_xk (S' := (8, [some (.ref 0), some (.int (xs 1)), some (.int (xs 2)), some (.int (xs 3)), some (.int (xs 4)), some (.int (xs 5))], [.int (xs 2)], (mm_fw3 (mm_zi 5) (.inr (10, mm_fw3f30 (.int 0))) (mm_zi 5) []))) 2 3000 rfl ?_
      refine mm_xcl (v := (some (.int 0))) (w1 := (mm_fw3 (mm_zi 5) (.inr (10, mm_fw3f30 (.int 0))) (mm_zi 5) [])) rfl ?_ ?_
      · skip
        refine mm_xk (S' := (1, [some (.int (xs 2))], [.int (xs 2)], (mm_fw3 (mm_zi 5) (.inr (10, mm_fw3f30 (.int 0))) (mm_zi 5) []))) 1 3000 rfl ?_
        refine mm_xif1 rfl false (mm_lt0 (a := (xs 2).toInt) (b := 0) rfl rfl (by omega)) rfl ?_
        refine mm_xk (S' := (7, [some (.int (xs 2))], [.int 65535, .int (xs 2)], (mm_fw3 (mm_zi 5) (.inr (10, mm_fw3f30 (.int 0))) (mm_zi 5) []))) 2 3000 rfl ?_
        refine mm_xif2 rfl true (mm_gt1 (a := (xs 2).toInt) (b := 65535) rfl rfl (by omega)) rfl ?_
        refine mm_xk (S' := (15, [some (.int (xs 2))], [.int 0], (mm_fw3 (mm_zi 5) (.inr (10, mm_fw3f30 (.int 0))) (mm_zi 5) []))) 1 3000 rfl ?_
        exact mm_xfn rfl
      refine mm_xk (S' := (48, [some (.ref 0), some (.int (xs 1)), some (.int (xs 2)), some (.int (xs 3)), some (.int (xs 4)), some (.int (xs 5))], [], (mm_fw3 (mm_zi 5) (.inr (10, mm_fw3f30 (.int 0))) (mm_zi 5) []))) 1 3000 rfl ?_
      exact mm_xfn rfl
    refine mm_xk (S' := (17, [some (.ref 0), some (.int (xs 1)), some (.int (xs 2)), some (.int (xs 3)), some (.int (xs 4)), some (.int (xs 5)), some (.ref 48)], [.int 1], (mm_fw3 (mm_zi 5) (.inr (10, mm_fw3f30 (.int 0))) (mm_zi 5) [.inr (11, [])]))) 2 3000 rfl ?_
    exact mm_xfn rfl
  refine mm_xk (S' := (465, [some (.ref 1000004), some (.ref 0), some (.ref 30), some (.ref 47), some (.int 0), some (.int 1), none], [.int (xs 5), .int (xs 4), .int (xs 3), .int (xs 2), .int (xs 1), .ref 30], (mm_fw3 (mm_zi 5) (.inr (10, mm_fw3f30 (.int 0))) (mm_zi 5) [.inr (11, [])]))) 27 3000 rfl ?_
  refine mm_xcl (v := none) (w1 := (mm_fw3 (mm_zi 5) (.inr (10, mm_fw3f30 (.int 1))) (mm_zi 5) [.inr (11, [])])) rfl ?_ ?_
  · skip
    refine mm_xk (S' := (4, [some (.ref 30), some (.int (xs 1)), some (.int (xs 2)), some (.int (xs 3)), some (.int (xs 4)), some (.int (xs 5)), none], [.int 65535, .int 0, .int (xs 1)], (mm_fw3 (mm_zi 5) (.inr (10, mm_fw3f30 (.int 0))) (mm_zi 5) [.inr (11, [])]))) 3 3000 rfl ?_
    refine mm_xcl (v := (some (.int 1))) (w1 := (mm_fw3 (mm_zi 5) (.inr (10, mm_fw3f30 (.int 0))) (mm_zi 5) [.inr (11, [])])) rfl ?_ ?_
    · skip
      refine mm_xk (S' := (2, [some (.int (xs 1)), some (.int 0), some (.int 65535)], [.int 0, .int (xs 1)], (mm_fw3 (mm_zi 5) (.inr (10, mm_fw3f30 (.int 0))) (mm_zi 5) [.inr (11, [])]))) 2 3000 rfl ?_
      refine mm_xif2 rfl false (mm_lt0 (a := (xs 1).toInt) (b := 0) rfl rfl (by omega)) rfl ?_
      refine mm_xk (S' := (7, [some (.int (xs 1)), some (.int 0), some (.int 65535)], [.int 65535, .int (xs 1)], (mm_fw3 (mm_zi 5) (.inr (10, mm_fw3f30 (.int 0))) (mm_zi 5) [.inr (11, [])]))) 2 3000 rfl ?_
      refine mm_xif2 rfl false (mm_gt0 (a := (xs 1).toInt) (b := 65535) rfl rfl (by omega)) rfl ?_
      refine mm_xk (S' := (15, [some (.int (xs 1)), some (.int 0), some (.int 65535)], [.int 1], (mm_fw3 (mm_zi 5) (.inr (10, mm_fw3f30 (.int 0))) (mm_zi 5) [.inr (11, [])]))) 2 3000 rfl ?_
      exact mm_xfn rfl
    refine mm_xk (S' := (14, [some (.ref 30), some (.int (xs 1)), some (.int (xs 2)), some (.int (xs 3)), some (.int (xs 4)), some (.int (xs 5)), none], [.int 65535, .int 0, .int (xs 2)], (mm_fw3 (mm_zi 5) (.inr (10, mm_fw3f30 (.int 0))) (mm_zi 5) [.inr (11, [])]))) 4 3000 rfl ?_
    refine mm_xcl (v := (some (.int 0))) (w1 := (mm_fw3 (mm_zi 5) (.inr (10, mm_fw3f30 (.int 0))) (mm_zi 5) [.inr (11, [])])) rfl ?_ ?_
    · skip
      refine mm_xk (S' := (2, [some (.int (xs 2)), some (.int 0), some (.int 65535)], [.int 0, .int (xs 2)], (mm_fw3 (mm_zi 5) (.inr (10, mm_fw3f30 (.int 0))) (mm_zi 5) [.inr (11, [])]))) 2 3000 rfl ?_
      refine mm_xif2 rfl false (mm_lt0 (a := (xs 2).toInt) (b := 0) rfl rfl (by omega)) rfl ?_
      refine mm_xk (S' := (7, [some (.int (xs 2)), some (.int 0), some (.int 65535)], [.int 65535, .int (xs 2)], (mm_fw3 (mm_zi 5) (.inr (10, mm_fw3f30 (.int 0))) (mm_zi 5) [.inr (11, [])]))) 2 3000 rfl ?_
      refine mm_xif2 rfl true (mm_gt1 (a := (xs 2).toInt) (b := 65535) rfl rfl (by omega)) rfl ?_
      refine mm_xk (S' := (15, [some (.int (xs 2)), some (.int 0), some (.int 65535)], [.int 0], (mm_fw3 (mm_zi 5) (.inr (10, mm_fw3f30 (.int 0))) (mm_zi 5) [.inr (11, [])]))) 1 3000 rfl ?_
      exact mm_xfn rfl
    refine mm_xk (S' := (81, [some (.ref 30), some (.int (xs 1)), some (.int (xs 2)), some (.int (xs 3)), some (.int (xs 4)), some (.int (xs 5)), some (.int 0)], [], (mm_fw3 (mm_zi 5) (.inr (10, mm_fw3f30 (.int 1))) (mm_zi 5) [.inr (11, [])]))) 8 3000 rfl ?_
    refine mm_xk (S' := (88, [some (.ref 30), some (.int (xs 1)), some (.int (xs 2)), some (.int (xs 3)), some (.int (xs 4)), some (.int (xs 5)), some (.int 0)], [], (mm_fw3 (mm_zi 5) (.inr (10, mm_fw3f30 (.int 1))) (mm_zi 5) [.inr (11, [])]))) 3 3000 rfl ?_
    exact mm_xfn rfl
  refine mm_xk (S' := (1092, [some (.ref 1000004), some (.ref 0), some (.ref 30), some (.ref 47), some (.int 9), some (.int 1), none], [], (mm_fw3 (mm_zi 5) (.inr (10, mm_fw3f30 (.int 1))) (mm_zi 5) [.inr (11, [])]))) 6 3000 rfl ?_
  refine mm_xk (S' := (1096, [some (.ref 1000004), some (.ref 0), some (.ref 30), some (.ref 47), some (.int 9), some (.int 1), none], [.int 1], (mm_fw3 (mm_zi 5) (.inr (10, mm_fw3f30 (.int 1))) (mm_zi 5) [.inr (11, [])]))) 8 3000 rfl ?_
  exact mm_xfn rfl
set_option maxRecDepth 100000 in
set_option maxHeartbeats 4000000 in
theorem mm_lf3_2 (xs : Nat → Int32) (l1 : 0 ≤ (xs 1).toInt) (u1 : (xs 1).toInt ≤ 65535) (l2 : 0 ≤ (xs 2).toInt) (u2 : (xs 2).toInt ≤ 65535) (l3 : 65536 ≤ (xs 3).toInt) : mm_Ok xs 398 := by
  refine mm_Ok_of (w' := ((mm_w0.set 30 (.inr (10, (mm_f30.set 0 (.int 1))))) ++ [.inr (11, [])])) (mm_szP 6 (mm_szS 63 mm_sz0 rfl) rfl) rfl rfl ?_
  refine mm_xk (S' := (429, [some (.ref 1000004), some (.ref 0), some (.ref 30), some (.ref 47), some (.int 0), none, none], [.int (xs 5), .int (xs 4), .int (xs 3), .int (xs 2), .int (xs 1), .ref 0], (mm_fw3 (mm_zi 5) (.inr (10, mm_fw3f30 (.int 0))) (mm_zi 5) []))) 26 3000 rfl ?_
  refine mm_xcl (v := (some (.int 1))) (w1 := (mm_fw3 (mm_zi 5) (.inr (10, mm_fw3f30 (.int 0))) (mm_zi 5) [.inr (11, [])])) rfl ?_ ?_
  · skip
    refine mm_xk (S' := (8, [some (.ref 0), some (.int (xs 1)), some (.int (xs 2)), some (.int (xs 3)), some (.int (xs 4)), some (.int (xs 5)), none], [.int (xs 5), .int (xs 4), .int (xs 3), .int (xs 2), .int (xs 1), .ref 0], (mm_fw3 (mm_zi 5) (.inr (10, mm_fw3f30 (.int 0))) (mm_zi 5) []))) 6 3000 rfl ?_
    refine mm_xct (x := 11) (hp := 14) (w1 := (mm_fw3 (mm_zi 5) (.inr (10, mm_fw3f30 (.int 0))) (mm_zi 5) [.inr (11, [])])) rfl ?_ rfl ?_
    · skip
      refine mm_xk (S' := (1, [some (.ref 0), some (.int (xs 1)), some (.int (xs 2)), some (.int (xs 3)), some (.int (xs 4)), some (.int (xs 5))], [.int (xs 1)], (mm_fw3 (mm_zi 5) (.inr (10, mm_fw3f30 (.int 0))) (mm_zi 5) []))) 1 3000 rfl ?_
      refine mm_xcl (v := (some (.int 1))) (w1 := (mm_fw3 (mm_zi 5) (.inr (10, mm_fw3f30 (.int 0))) (mm_zi 5) [])) rfl ?_ ?_
      · skip
        refine mm_xk (S' := (1, [some (.int (xs 1))], [.int (xs 1)], (mm_fw3 (mm_zi 5) (.inr (10, mm_fw3f30 (.int 0))) (mm_zi 5) []))) 1 3000 rfl ?_
        refine mm_xif1 rfl false (mm_lt0 (a := (xs 1).toInt) (b := 0) rfl rfl (by omega)) rfl ?_
        refine mm_xk (S' := (7, [some (.int (xs 1))], [.int 65535, .int (xs 1)], (mm_fw3 (mm_zi 5) (.inr (10, mm_fw3f30 (.int 0))) (mm_zi 5) []))) 2 3000 rfl ?_
        refine mm_xif2 rfl false (mm_gt0 (a := (xs 1).toInt) (b := 65535) rfl rfl (by omega)) rfl ?_
        refine mm_xk (S' := (15, [some (.int (xs 1))], [.int 1], (mm_fw3 (mm_zi 5) (.inr (10, mm_fw3f30 (.int 0))) (mm_zi 5) []))) 2 3000 rfl ?_
        exact mm_xfn rfl
      refine mm_xk (S' := (8, [some (.ref 0), some (.int (xs 1)), some (.int (xs 2)), some (.int (xs 3)), some (.int (xs 4)), some (.int (xs 5))], [.int (xs 2)], (mm_fw3 (mm_zi 5) (.inr (10, mm_fw3f30 (.int 0))) (mm_zi 5) []))) 2 3000 rfl ?_
      refine mm_xcl (v := (some (.int 1))) (w1 := (mm_fw3 (mm_zi 5) (.inr (10, mm_fw3f30 (.int 0))) (mm_zi 5) [])) rfl ?_ ?_
      · skip
        refine mm_xk (S' := (1, [some (.int (xs 2))], [.int (xs 2)], (mm_fw3 (mm_zi 5) (.inr (10, mm_fw3f30 (.int 0))) (mm_zi 5) []))) 1 3000 rfl ?_
        refine mm_xif1 rfl false (mm_lt0 (a := (xs 2).toInt) (b := 0) rfl rfl (by omega)) rfl ?_
        refine mm_xk (S' := (7, [some (.int (xs 2))], [.int 65535, .int (xs 2)], (mm_fw3 (mm_zi 5) (.inr (10, mm_fw3f30 (.int 0))) (mm_zi 5) []))) 2 3000 rfl ?_
        refine mm_xif2 rfl false (mm_gt0 (a := (xs 2).toInt) (b := 65535) rfl rfl (by omega)) rfl ?_
        refine mm_xk (S' := (15, [some (.int (xs 2))], [.int 1], (mm_fw3 (mm_zi 5) (.inr (10, mm_fw3f30 (.int 0))) (mm_zi 5) []))) 2 3000 rfl ?_
        exact mm_xfn rfl
      refine mm_xk (S' := (15, [some (.ref 0), some (.int (xs 1)), some (.int (xs 2)), some (.int (xs 3)), some (.int (xs 4)), some (.int (xs 5))], [.int (xs 3)], (mm_fw3 (mm_zi 5) (.inr (10, mm_fw3f30 (.int 0))) (mm_zi 5) []))) 2 3000 rfl ?_
      refine mm_xcl (v := (some (.int 0))) (w1 := (mm_fw3 (mm_zi 5) (.inr (10, mm_fw3f30 (.int 0))) (mm_zi 5) [])) rfl ?_ ?_
      · skip
        refine mm_xk (S' := (1, [some (.int (xs 3))], [.int (xs 3)], (mm_fw3 (mm_zi 5) (.inr (10, mm_fw3f30 (.int 0))) (mm_zi 5) []))) 1 3000 rfl ?_
        refine mm_xif1 rfl false (mm_lt0 (a := (xs 3).toInt) (b := 0) rfl rfl (by omega)) rfl ?_
        refine mm_xk (S' := (7, [some (.int (xs 3))], [.int 65535, .int (xs 3)], (mm_fw3 (mm_zi 5) (.inr (10, mm_fw3f30 (.int 0))) (mm_zi 5) []))) 2 3000 rfl ?_
        refine mm_xif2 rfl true (mm_gt1 (a := (xs 3).toInt) (b := 65535) rfl rfl (by omega)) rfl ?_
        refine mm_xk (S' := (15, [some (.int (xs 3))], [.int 0], (mm_fw3 (mm_zi 5) (.inr (10, mm_fw3f30 (.int 0))) (mm_zi 5) []))) 1 3000 rfl ?_
        exact mm_xfn rfl
      refine mm_xk (S' := (48, [some (.ref 0), some (.int (xs 1)), some (.int (xs 2)), some (.int (xs 3)), some (.int (xs 4)), some (.int (xs 5))], [], (mm_fw3 (mm_zi 5) (.inr (10, mm_fw3f30 (.int 0))) (mm_zi 5) []))) 1 3000 rfl ?_
      exact mm_xfn rfl
    refine mm_xk (S' := (17, [some (.ref 0), some (.int (xs 1)), some (.int (xs 2)), some (.int (xs 3)), some (.int (xs 4)), some (.int (xs 5)), some (.ref 48)], [.int 1], (mm_fw3 (mm_zi 5) (.inr (10, mm_fw3f30 (.int 0))) (mm_zi 5) [.inr (11, [])]))) 2 3000 rfl ?_
    exact mm_xfn rfl
  refine mm_xk (S' := (465, [some (.ref 1000004), some (.ref 0), some (.ref 30), some (.ref 47), some (.int 0), some (.int 1), none], [.int (xs 5), .int (xs 4), .int (xs 3), .int (xs 2), .int (xs 1), .ref 30], (mm_fw3 (mm_zi 5) (.inr (10, mm_fw3f30 (.int 0))) (mm_zi 5) [.inr (11, [])]))) 27 3000 rfl ?_
  refine mm_xcl (v := none) (w1 := (mm_fw3 (mm_zi 5) (.inr (10, mm_fw3f30 (.int 1))) (mm_zi 5) [.inr (11, [])])) rfl ?_ ?_
  · skip
    refine mm_xk (S' := (4, [some (.ref 30), some (.int (xs 1)), some (.int (xs 2)), some (.int (xs 3)), some (.int (xs 4)), some (.int (xs 5)), none], [.int 65535, .int 0, .int (xs 1)], (mm_fw3 (mm_zi 5) (.inr (10, mm_fw3f30 (.int 0))) (mm_zi 5) [.inr (11, [])]))) 3 3000 rfl ?_
    refine mm_xcl (v := (some (.int 1))) (w1 := (mm_fw3 (mm_zi 5) (.inr (10, mm_fw3f30 (.int 0))) (mm_zi 5) [.inr (11, [])])) rfl ?_ ?_
    · skip
      refine mm_xk (S' := (2, [some (.int (xs 1)), some (.int 0), some (.int 65535)], [.int 0, .int (xs 1)], (mm_fw3 (mm_zi 5) (.inr (10, mm_fw3f30 (.int 0))) (mm_zi 5) [.inr (11, [])]))) 2 3000 rfl ?_
      refine mm_xif2 rfl false (mm_lt0 (a := (xs 1).toInt) (b := 0) rfl rfl (by omega)) rfl ?_
      refine mm_xk (S' := (7, [some (.int (xs 1)), some (.int 0), some (.int 65535)], [.int 65535, .int (xs 1)], (mm_fw3 (mm_zi 5) (.inr (10, mm_fw3f30 (.int 0))) (mm_zi 5) [.inr (11, [])]))) 2 3000 rfl ?_
      refine mm_xif2 rfl false (mm_gt0 (a := (xs 1).toInt) (b := 65535) rfl rfl (by omega)) rfl ?_
      refine mm_xk (S' := (15, [some (.int (xs 1)), some (.int 0), some (.int 65535)], [.int 1], (mm_fw3 (mm_zi 5) (.inr (10, mm_fw3f30 (.int 0))) (mm_zi 5) [.inr (11, [])]))) 2 3000 rfl ?_
      exact mm_xfn rfl
    refine mm_xk (S' := (14, [some (.ref 30), some (.int (xs 1)), some (.int (xs 2)), some (.int (xs 3)), some (.int (xs 4)), some (.int (xs 5)), none], [.int 65535, .int 0, .int (xs 2)], (mm_fw3 (mm_zi 5) (.inr (10, mm_fw3f30 (.int 0))) (mm_zi 5) [.inr (11, [])]))) 4 3000 rfl ?_
    refine mm_xcl (v := (some (.int 1))) (w1 := (mm_fw3 (mm_zi 5) (.inr (10, mm_fw3f30 (.int 0))) (mm_zi 5) [.inr (11, [])])) rfl ?_ ?_
    · skip
      refine mm_xk (S' := (2, [some (.int (xs 2)), some (.int 0), some (.int 65535)], [.int 0, .int (xs 2)], (mm_fw3 (mm_zi 5) (.inr (10, mm_fw3f30 (.int 0))) (mm_zi 5) [.inr (11, [])]))) 2 3000 rfl ?_
      refine mm_xif2 rfl false (mm_lt0 (a := (xs 2).toInt) (b := 0) rfl rfl (by omega)) rfl ?_
      refine mm_xk (S' := (7, [some (.int (xs 2)), some (.int 0), some (.int 65535)], [.int 65535, .int (xs 2)], (mm_fw3 (mm_zi 5) (.inr (10, mm_fw3f30 (.int 0))) (mm_zi 5) [.inr (11, [])]))) 2 3000 rfl ?_
      refine mm_xif2 rfl false (mm_gt0 (a := (xs 2).toInt) (b := 65535) rfl rfl (by omega)) rfl ?_
      refine mm_xk (S' := (15, [some (.int (xs 2)), some (.int 0), some (.int 65535)], [.int 1], (mm_fw3 (mm_zi 5) (.inr (10, mm_fw3f30 (.int 0))) (mm_zi 5) [.inr (11, [])]))) 2 3000 rfl ?_
      exact mm_xfn rfl
    refine mm_xk (S' := (24, [some (.ref 30), some (.int (xs 1)), some (.int (xs 2)), some (.int (xs 3)), some (.int (xs 4)), some (.int (xs 5)), none], [.int 65535, .int 0, .int (xs 3)], (mm_fw3 (mm_zi 5) (.inr (10, mm_fw3f30 (.int 0))) (mm_zi 5) [.inr (11, [])]))) 4 3000 rfl ?_
    refine mm_xcl (v := (some (.int 0))) (w1 := (mm_fw3 (mm_zi 5) (.inr (10, mm_fw3f30 (.int 0))) (mm_zi 5) [.inr (11, [])])) rfl ?_ ?_
    · skip
      refine mm_xk (S' := (2, [some (.int (xs 3)), some (.int 0), some (.int 65535)], [.int 0, .int (xs 3)], (mm_fw3 (mm_zi 5) (.inr (10, mm_fw3f30 (.int 0))) (mm_zi 5) [.inr (11, [])]))) 2 3000 rfl ?_
      refine mm_xif2 rfl false (mm_lt0 (a := (xs 3).toInt) (b := 0) rfl rfl (by omega)) rfl ?_
      refine mm_xk (S' := (7, [some (.int (xs 3)), some (.int 0), some (.int 65535)], [.int 65535, .int (xs 3)], (mm_fw3 (mm_zi 5) (.inr (10, mm_fw3f30 (.int 0))) (mm_zi 5) [.inr (11, [])]))) 2 3000 rfl ?_
      refine mm_xif2 rfl true (mm_gt1 (a := (xs 3).toInt) (b := 65535) rfl rfl (by omega)) rfl ?_
      refine mm_xk (S' := (15, [some (.int (xs 3)), some (.int 0), some (.int 65535)], [.int 0], (mm_fw3 (mm_zi 5) (.inr (10, mm_fw3f30 (.int 0))) (mm_zi 5) [.inr (11, [])]))) 1 3000 rfl ?_
      exact mm_xfn rfl
    refine mm_xk (S' := (81, [some (.ref 30), some (.int (xs 1)), some (.int (xs 2)), some (.int (xs 3)), some (.int (xs 4)), some (.int (xs 5)), some (.int 0)], [], (mm_fw3 (mm_zi 5) (.inr (10, mm_fw3f30 (.int 1))) (mm_zi 5) [.inr (11, [])]))) 8 3000 rfl ?_
    refine mm_xk (S' := (88, [some (.ref 30), some (.int (xs 1)), some (.int (xs 2)), some (.int (xs 3)), some (.int (xs 4)), some (.int (xs 5)), some (.int 0)], [], (mm_fw3 (mm_zi 5) (.inr (10, mm_fw3f30 (.int 1))) (mm_zi 5) [.inr (11, [])]))) 3 3000 rfl ?_
    exact mm_xfn rfl
  refine mm_xk (S' := (1092, [some (.ref 1000004), some (.ref 0), some (.ref 30), some (.ref 47), some (.int 9), some (.int 1), none], [], (mm_fw3 (mm_zi 5) (.inr (10, mm_fw3f30 (.int 1))) (mm_zi 5) [.inr (11, [])]))) 6 3000 rfl ?_
  refine mm_xk (S' := (1096, [some (.ref 1000004), some (.ref 0), some (.ref 30), some (.ref 47), some (.int 9), some (.int 1), none], [.int 1], (mm_fw3 (mm_zi 5) (.inr (10, mm_fw3f30 (.int 1))) (mm_zi 5) [.inr (11, [])]))) 8 3000 rfl ?_
  exact mm_xfn rfl
set_option maxRecDepth 100000 in
set_option maxHeartbeats 4000000 in
theorem mm_lf3_3 (xs : Nat → Int32) (l1 : 0 ≤ (xs 1).toInt) (u1 : (xs 1).toInt ≤ 65535) (l2 : 0 ≤ (xs 2).toInt) (u2 : (xs 2).toInt ≤ 65535) (l3 : 0 ≤ (xs 3).toInt) (u3 : (xs 3).toInt ≤ 65535) (l4 : 65536 ≤ (xs 4).toInt) : mm_Ok xs 398 := by
  refine mm_Ok_of (w' := ((mm_w0.set 30 (.inr (10, (mm_f30.set 0 (.int 1))))) ++ [.inr (11, [])])) (mm_szP 6 (mm_szS 63 mm_sz0 rfl) rfl) rfl rfl ?_
  refine mm_xk (S' := (429, [some (.ref 1000004), some (.ref 0), some (.ref 30), some (.ref 47), some (.int 0), none, none], [.int (xs 5), .int (xs 4), .int (xs 3), .int (xs 2), .int (xs 1), .ref 0], (mm_fw3 (mm_zi 5) (.inr (10, mm_fw3f30 (.int 0))) (mm_zi 5) []))) 26 3000 rfl ?_
  refine mm_xcl (v := (some (.int 1))) (w1 := (mm_fw3 (mm_zi 5) (.inr (10, mm_fw3f30 (.int 0))) (mm_zi 5) [.inr (11, [])])) rfl ?_ ?_
  · skip
    refine mm_xk (S' := (8, [some (.ref 0), some (.int (xs 1)), some (.int (xs 2)), some (.int (xs 3)), some (.int (xs 4)), some (.int (xs 5)), none], [.int (xs 5), .int (xs 4), .int (xs 3), .int (xs 2), .int (xs 1), .ref 0], (mm_fw3 (mm_zi 5) (.inr (10, mm_fw3f30 (.int 0))) (mm_zi 5) []))) 6 3000 rfl ?_
    refine mm_xct (x := 11) (hp := 14) (w1 := (mm_fw3 (mm_zi 5) (.inr (10, mm_fw3f30 (.int 0))) (mm_zi 5) [.inr (11, [])])) rfl ?_ rfl ?_
    · skip
      refine mm_xk (S' := (1, [some (.ref 0), some (.int (xs 1)), some (.int (xs 2)), some (.int (xs 3)), some (.int (xs 4)), some (.int (xs 5))], [.int (xs 1)], (mm_fw3 (mm_zi 5) (.inr (10, mm_fw3f30 (.int 0))) (mm_zi 5) []))) 1 3000 rfl ?_
      refine mm_xcl (v := (some (.int 1))) (w1 := (mm_fw3 (mm_zi 5) (.inr (10, mm_fw3f30 (.int 0))) (mm_zi 5) [])) rfl ?_ ?_
      · skip
        refine mm_xk (S' := (1, [some (.int (xs 1))], [.int (xs 1)], (mm_fw3 (mm_zi 5) (.inr (10, mm_fw3f30 (.int 0))) (mm_zi 5) []))) 1 3000 rfl ?_
        refine mm_xif1 rfl false (mm_lt0 (a := (xs 1).toInt) (b := 0) rfl rfl (by omega)) rfl ?_
        refine mm_xk (S' := (7, [some (.int (xs 1))], [.int 65535, .int (xs 1)], (mm_fw3 (mm_zi 5) (.inr (10, mm_fw3f30 (.int 0))) (mm_zi 5) []))) 2 3000 rfl ?_
        refine mm_xif2 rfl false (mm_gt0 (a := (xs 1).toInt) (b := 65535) rfl rfl (by omega)) rfl ?_
        refine mm_xk (S' := (15, [some (.int (xs 1))], [.int 1], (mm_fw3 (mm_zi 5) (.inr (10, mm_fw3f30 (.int 0))) (mm_zi 5) []))) 2 3000 rfl ?_
        exact mm_xfn rfl
      refine mm_xk (S' := (8, [some (.ref 0), some (.int (xs 1)), some (.int (xs 2)), some (.int (xs 3)), some (.int (xs 4)), some (.int (xs 5))], [.int (xs 2)], (mm_fw3 (mm_zi 5) (.inr (10, mm_fw3f30 (.int 0))) (mm_zi 5) []))) 2 3000 rfl ?_
      refine mm_xcl (v := (some (.int 1))) (w1 := (mm_fw3 (mm_zi 5) (.inr (10, mm_fw3f30 (.int 0))) (mm_zi 5) [])) rfl ?_ ?_
      · skip
        refine mm_xk (S' := (1, [some (.int (xs 2))], [.int (xs 2)], (mm_fw3 (mm_zi 5) (.inr (10, mm_fw3f30 (.int 0))) (mm_zi 5) []))) 1 3000 rfl ?_
        refine mm_xif1 rfl false (mm_lt0 (a := (xs 2).toInt) (b := 0) rfl rfl (by omega)) rfl ?_
        refine mm_xk (S' := (7, [some (.int (xs 2))], [.int 65535, .int (xs 2)], (mm_fw3 (mm_zi 5) (.inr (10, mm_fw3f30 (.int 0))) (mm_zi 5) []))) 2 3000 rfl ?_
        refine mm_xif2 rfl false (mm_gt0 (a := (xs 2).toInt) (b := 65535) rfl rfl (by omega)) rfl ?_
        refine mm_xk (S' := (15, [some (.int (xs 2))], [.int 1], (mm_fw3 (mm_zi 5) (.inr (10, mm_fw3f30 (.int 0))) (mm_zi 5) []))) 2 3000 rfl ?_
        exact mm_xfn rfl
      refine mm_xk (S' := (15, [some (.ref 0), some (.int (xs 1)), some (.int (xs 2)), some (.int (xs 3)), some (.int (xs 4)), some (.int (xs 5))], [.int (xs 3)], (mm_fw3 (mm_zi 5) (.inr (10, mm_fw3f30 (.int 0))) (mm_zi 5) []))) 2 3000 rfl ?_
      refine mm_xcl (v := (some (.int 1))) (w1 := (mm_fw3 (mm_zi 5) (.inr (10, mm_fw3f30 (.int 0))) (mm_zi 5) [])) rfl ?_ ?_
      · skip
        refine mm_xk (S' := (1, [some (.int (xs 3))], [.int (xs 3)], (mm_fw3 (mm_zi 5) (.inr (10, mm_fw3f30 (.int 0))) (mm_zi 5) []))) 1 3000 rfl ?_
        refine mm_xif1 rfl false (mm_lt0 (a := (xs 3).toInt) (b := 0) rfl rfl (by omega)) rfl ?_
        refine mm_xk (S' := (7, [some (.int (xs 3))], [.int 65535, .int (xs 3)], (mm_fw3 (mm_zi 5) (.inr (10, mm_fw3f30 (.int 0))) (mm_zi 5) []))) 2 3000 rfl ?_
        refine mm_xif2 rfl false (mm_gt0 (a := (xs 3).toInt) (b := 65535) rfl rfl (by omega)) rfl ?_
        refine mm_xk (S' := (15, [some (.int (xs 3))], [.int 1], (mm_fw3 (mm_zi 5) (.inr (10, mm_fw3f30 (.int 0))) (mm_zi 5) []))) 2 3000 rfl ?_
        exact mm_xfn rfl
      refine mm_xk (S' := (23, [some (.ref 0), some (.int (xs 1)), some (.int (xs 2)), some (.int (xs 3)), some (.int (xs 4)), some (.int (xs 5))], [.int (xs 4)], (mm_fw3 (mm_zi 5) (.inr (10, mm_fw3f30 (.int 0))) (mm_zi 5) []))) 2 3000 rfl ?_
      refine mm_xcl (v := (some (.int 0))) (w1 := (mm_fw3 (mm_zi 5) (.inr (10, mm_fw3f30 (.int 0))) (mm_zi 5) [])) rfl ?_ ?_
      · skip
        refine mm_xk (S' := (1, [some (.int (xs 4))], [.int (xs 4)], (mm_fw3 (mm_zi 5) (.inr (10, mm_fw3f30 (.int 0))) (mm_zi 5) []))) 1 3000 rfl ?_
        refine mm_xif1 rfl false (mm_lt0 (a := (xs 4).toInt) (b := 0) rfl rfl (by omega)) rfl ?_
        refine mm_xk (S' := (7, [some (.int (xs 4))], [.int 65535, .int (xs 4)], (mm_fw3 (mm_zi 5) (.inr (10, mm_fw3f30 (.int 0))) (mm_zi 5) []))) 2 3000 rfl ?_
        refine mm_xif2 rfl true (mm_gt1 (a := (xs 4).toInt) (b := 65535) rfl rfl (by omega)) rfl ?_
        refine mm_xk (S' := (15, [some (.int (xs 4))], [.int 0], (mm_fw3 (mm_zi 5) (.inr (10, mm_fw3f30 (.int 0))) (mm_zi 5) []))) 1 3000 rfl ?_
        exact mm_xfn rfl
      refine mm_xk (S' := (48, [some (.ref 0), some (.int (xs 1)), some (.int (xs 2)), some (.int (xs 3)), some (.int (xs 4)), some (.int (xs 5))], [], (mm_fw3 (mm_zi 5) (.inr (10, mm_fw3f30 (.int 0))) (mm_zi 5) []))) 1 3000 rfl ?_
      exact mm_xfn rfl
    refine mm_xk (S' := (17, [some (.ref 0), some (.int (xs 1)), some (.int (xs 2)), some (.int (xs 3)), some (.int (xs 4)), some (.int (xs 5)), some (.ref 48)], [.int 1], (mm_fw3 (mm_zi 5) (.inr (10, mm_fw3f30 (.int 0))) (mm_zi 5) [.inr (11, [])]))) 2 3000 rfl ?_
    exact mm_xfn rfl
  refine mm_xk (S' := (465, [some (.ref 1000004), some (.ref 0), some (.ref 30), some (.ref 47), some (.int 0), some (.int 1), none], [.int (xs 5), .int (xs 4), .int (xs 3), .int (xs 2), .int (xs 1), .ref 30], (mm_fw3 (mm_zi 5) (.inr (10, mm_fw3f30 (.int 0))) (mm_zi 5) [.inr (11, [])]))) 27 3000 rfl ?_
  refine mm_xcl (v := none) (w1 := (mm_fw3 (mm_zi 5) (.inr (10, mm_fw3f30 (.int 1))) (mm_zi 5) [.inr (11, [])])) rfl ?_ ?_
  · skip
    refine mm_xk (S' := (4, [some (.ref 30), some (.int (xs 1)), some (.int (xs 2)), some (.int (xs 3)), some (.int (xs 4)), some (.int (xs 5)), none], [.int 65535, .int 0, .int (xs 1)], (mm_fw3 (mm_zi 5) (.inr (10, mm_fw3f30 (.int 0))) (mm_zi 5) [.inr (11, [])]))) 3 3000 rfl ?_
    refine mm_xcl (v := (some (.int 1))) (w1 := (mm_fw3 (mm_zi 5) (.inr (10, mm_fw3f30 (.int 0))) (mm_zi 5) [.inr (11, [])])) rfl ?_ ?_
    · skip
      refine mm_xk (S' := (2, [some (.int (xs 1)), some (.int 0), some (.int 65535)], [.int 0, .int (xs 1)], (mm_fw3 (mm_zi 5) (.inr (10, mm_fw3f30 (.int 0))) (mm_zi 5) [.inr (11, [])]))) 2 3000 rfl ?_
      refine mm_xif2 rfl false (mm_lt0 (a := (xs 1).toInt) (b := 0) rfl rfl (by omega)) rfl ?_
      refine mm_xk (S' := (7, [some (.int (xs 1)), some (.int 0), some (.int 65535)], [.int 65535, .int (xs 1)], (mm_fw3 (mm_zi 5) (.inr (10, mm_fw3f30 (.int 0))) (mm_zi 5) [.inr (11, [])]))) 2 3000 rfl ?_
      refine mm_xif2 rfl false (mm_gt0 (a := (xs 1).toInt) (b := 65535) rfl rfl (by omega)) rfl ?_
      refine mm_xk (S' := (15, [some (.int (xs 1)), some (.int 0), some (.int 65535)], [.int 1], (mm_fw3 (mm_zi 5) (.inr (10, mm_fw3f30 (.int 0))) (mm_zi 5) [.inr (11, [])]))) 2 3000 rfl ?_
      exact mm_xfn rfl
    refine mm_xk (S' := (14, [some (.ref 30), some (.int (xs 1)), some (.int (xs 2)), some (.int (xs 3)), some (.int (xs 4)), some (.int (xs 5)), none], [.int 65535, .int 0, .int (xs 2)], (mm_fw3 (mm_zi 5) (.inr (10, mm_fw3f30 (.int 0))) (mm_zi 5) [.inr (11, [])]))) 4 3000 rfl ?_
    refine mm_xcl (v := (some (.int 1))) (w1 := (mm_fw3 (mm_zi 5) (.inr (10, mm_fw3f30 (.int 0))) (mm_zi 5) [.inr (11, [])])) rfl ?_ ?_
    · skip
      refine mm_xk (S' := (2, [some (.int (xs 2)), some (.int 0), some (.int 65535)], [.int 0, .int (xs 2)], (mm_fw3 (mm_zi 5) (.inr (10, mm_fw3f30 (.int 0))) (mm_zi 5) [.inr (11, [])]))) 2 3000 rfl ?_
      refine mm_xif2 rfl false (mm_lt0 (a := (xs 2).toInt) (b := 0) rfl rfl (by omega)) rfl ?_
      refine mm_xk (S' := (7, [some (.int (xs 2)), some (.int 0), some (.int 65535)], [.int 65535, .int (xs 2)], (mm_fw3 (mm_zi 5) (.inr (10, mm_fw3f30 (.int 0))) (mm_zi 5) [.inr (11, [])]))) 2 3000 rfl ?_
      refine mm_xif2 rfl false (mm_gt0 (a := (xs 2).toInt) (b := 65535) rfl rfl (by omega)) rfl ?_
      refine mm_xk (S' := (15, [some (.int (xs 2)), some (.int 0), some (.int 65535)], [.int 1], (mm_fw3 (mm_zi 5) (.inr (10, mm_fw3f30 (.int 0))) (mm_zi 5) [.inr (11, [])]))) 2 3000 rfl ?_
      exact mm_xfn rfl
    refine mm_xk (S' := (24, [some (.ref 30), some (.int (xs 1)), some (.int (xs 2)), some (.int (xs 3)), some (.int (xs 4)), some (.int (xs 5)), none], [.int 65535, .int 0, .int (xs 3)], (mm_fw3 (mm_zi 5) (.inr (10, mm_fw3f30 (.int 0))) (mm_zi 5) [.inr (11, [])]))) 4 3000 rfl ?_
    refine mm_xcl (v := (some (.int 1))) (w1 := (mm_fw3 (mm_zi 5) (.inr (10, mm_fw3f30 (.int 0))) (mm_zi 5) [.inr (11, [])])) rfl ?_ ?_
    · skip
      refine mm_xk (S' := (2, [some (.int (xs 3)), some (.int 0), some (.int 65535)], [.int 0, .int (xs 3)], (mm_fw3 (mm_zi 5) (.inr (10, mm_fw3f30 (.int 0))) (mm_zi 5) [.inr (11, [])]))) 2 3000 rfl ?_
      refine mm_xif2 rfl false (mm_lt0 (a := (xs 3).toInt) (b := 0) rfl rfl (by omega)) rfl ?_
      refine mm_xk (S' := (7, [some (.int (xs 3)), some (.int 0), some (.int 65535)], [.int 65535, .int (xs 3)], (mm_fw3 (mm_zi 5) (.inr (10, mm_fw3f30 (.int 0))) (mm_zi 5) [.inr (11, [])]))) 2 3000 rfl ?_
      refine mm_xif2 rfl false (mm_gt0 (a := (xs 3).toInt) (b := 65535) rfl rfl (by omega)) rfl ?_
      refine mm_xk (S' := (15, [some (.int (xs 3)), some (.int 0), some (.int 65535)], [.int 1], (mm_fw3 (mm_zi 5) (.inr (10, mm_fw3f30 (.int 0))) (mm_zi 5) [.inr (11, [])]))) 2 3000 rfl ?_
      exact mm_xfn rfl
    refine mm_xk (S' := (35, [some (.ref 30), some (.int (xs 1)), some (.int (xs 2)), some (.int (xs 3)), some (.int (xs 4)), some (.int (xs 5)), none], [.int 65535, .int 0, .int (xs 4)], (mm_fw3 (mm_zi 5) (.inr (10, mm_fw3f30 (.int 0))) (mm_zi 5) [.inr (11, [])]))) 4 3000 rfl ?_
    refine mm_xcl (v := (some (.int 0))) (w1 := (mm_fw3 (mm_zi 5) (.inr (10, mm_fw3f30 (.int 0))) (mm_zi 5) [.inr (11, [])])) rfl ?_ ?_
    · skip
      refine mm_xk (S' := (2, [some (.int (xs 4)), some (.int 0), some (.int 65535)], [.int 0, .int (xs 4)], (mm_fw3 (mm_zi 5) (.inr (10, mm_fw3f30 (.int 0))) (mm_zi 5) [.inr (11, [])]))) 2 3000 rfl ?_
      refine mm_xif2 rfl false (mm_lt0 (a := (xs 4).toInt) (b := 0) rfl rfl (by omega)) rfl ?_
      refine mm_xk (S' := (7, [some (.int (xs 4)), some (.int 0), some (.int 65535)], [.int 65535, .int (xs 4)], (mm_fw3 (mm_zi 5) (.inr (10, mm_fw3f30 (.int 0))) (mm_zi 5) [.inr (11, [])]))) 2 3000 rfl ?_
      refine mm_xif2 rfl true (mm_gt1 (a := (xs 4).toInt) (b := 65535) rfl rfl (by omega)) rfl ?_
      refine mm_xk (S' := (15, [some (.int (xs 4)), some (.int 0), some (.int 65535)], [.int 0], (mm_fw3 (mm_zi 5) (.inr (10, mm_fw3f30 (.int 0))) (mm_zi 5) [.inr (11, [])]))) 1 3000 rfl ?_
      exact mm_xfn rfl
    refine mm_xk (S' := (81, [some (.ref 30), some (.int (xs 1)), some (.int (xs 2)), some (.int (xs 3)), some (.int (xs 4)), some (.int (xs 5)), some (.int 0)], [], (mm_fw3 (mm_zi 5) (.inr (10, mm_fw3f30 (.int 1))) (mm_zi 5) [.inr (11, [])]))) 8 3000 rfl ?_
    refine mm_xk (S' := (88, [some (.ref 30), some (.int (xs 1)), some (.int (xs 2)), some (.int (xs 3)), some (.int (xs 4)), some (.int (xs 5)), some (.int 0)], [], (mm_fw3 (mm_zi 5) (.inr (10, mm_fw3f30 (.int 1))) (mm_zi 5) [.inr (11, [])]))) 3 3000 rfl ?_
    exact mm_xfn rfl
  refine mm_xk (S' := (1092, [some (.ref 1000004), some (.ref 0), some (.ref 30), some (.ref 47), some (.int 9), some (.int 1), none], [], (mm_fw3 (mm_zi 5) (.inr (10, mm_fw3f30 (.int 1))) (mm_zi 5) [.inr (11, [])]))) 6 3000 rfl ?_
  refine mm_xk (S' := (1096, [some (.ref 1000004), some (.ref 0), some (.ref 30), some (.ref 47), some (.int 9), some (.int 1), none], [.int 1], (mm_fw3 (mm_zi 5) (.inr (10, mm_fw3f30 (.int 1))) (mm_zi 5) [.inr (11, [])]))) 8 3000 rfl ?_
  exact mm_xfn rfl
set_option maxRecDepth 100000 in
set_option maxHeartbeats 4000000 in
theorem mm_lf3_4 (xs : Nat → Int32) (l1 : 0 ≤ (xs 1).toInt) (u1 : (xs 1).toInt ≤ 65535) (l2 : 0 ≤ (xs 2).toInt) (u2 : (xs 2).toInt ≤ 65535) (l3 : 0 ≤ (xs 3).toInt) (u3 : (xs 3).toInt ≤ 65535) (l4 : 0 ≤ (xs 4).toInt) (u4 : (xs 4).toInt ≤ 65535) (l5 : 65536 ≤ (xs 5).toInt) : mm_Ok xs 398 := by
  refine mm_Ok_of (w' := ((mm_w0.set 30 (.inr (10, (mm_f30.set 0 (.int 1))))) ++ [.inr (11, [])])) (mm_szP 6 (mm_szS 63 mm_sz0 rfl) rfl) rfl rfl ?_
  refine mm_xk (S' := (429, [some (.ref 1000004), some (.ref 0), some (.ref 30), some (.ref 47), some (.int 0), none, none], [.int (xs 5), .int (xs 4), .int (xs 3), .int (xs 2), .int (xs 1), .ref 0], (mm_fw3 (mm_zi 5) (.inr (10, mm_fw3f30 (.int 0))) (mm_zi 5) []))) 26 3000 rfl ?_
  refine mm_xcl (v := (some (.int 1))) (w1 := (mm_fw3 (mm_zi 5) (.inr (10, mm_fw3f30 (.int 0))) (mm_zi 5) [.inr (11, [])])) rfl ?_ ?_
  · skip
    refine mm_xk (S' := (8, [some (.ref 0), some (.int (xs 1)), some (.int (xs 2)), some (.int (xs 3)), some (.int (xs 4)), some (.int (xs 5)), none], [.int (xs 5), .int (xs 4), .int (xs 3), .int (xs 2), .int (xs 1), .ref 0], (mm_fw3 (mm_zi 5) (.inr (10, mm_fw3f30 (.int 0))) (mm_zi 5) []))) 6 3000 rfl ?_
    refine mm_xct (x := 11) (hp := 14) (w1 := (mm_fw3 (mm_zi 5) (.inr (10, mm_fw3f30 (.int 0))) (mm_zi 5) [.inr (11, [])])) rfl ?_ rfl ?_
    · skip
      refine mm_xk (S' := (1, [some (.ref 0), some (.int (xs 1)), some (.int (xs 2)), some (.int (xs 3)), some (.int (xs 4)), some (.int (xs 5))], [.int (xs 1)], (mm_fw3 (mm_zi 5) (.inr (10, mm_fw3f30 (.int 0))) (mm_zi 5) []))) 1 3000 rfl ?_
      refine mm_xcl (v := (some (.int 1))) (w1 := (mm_fw3 (mm_zi 5) (.inr (10, mm_fw3f30 (.int 0))) (mm_zi 5) [])) rfl ?_ ?_
      · skip
        refine mm_xk (S' := (1, [some (.int (xs 1))], [.int (xs 1)], (mm_fw3 (mm_zi 5) (.inr (10, mm_fw3f30 (.int 0))) (mm_zi 5) []))) 1 3000 rfl ?_
        refine mm_xif1 rfl false (mm_lt0 (a := (xs 1).toInt) (b := 0) rfl rfl (by omega)) rfl ?_
        refine mm_xk (S' := (7, [some (.int (xs 1))], [.int 65535, .int (xs 1)], (mm_fw3 (mm_zi 5) (.inr (10, mm_fw3f30 (.int 0))) (mm_zi 5) []))) 2 3000 rfl ?_
        refine mm_xif2 rfl false (mm_gt0 (a := (xs 1).toInt) (b := 65535) rfl rfl (by omega)) rfl ?_
        refine mm_xk (S' := (15, [some (.int (xs 1))], [.int 1], (mm_fw3 (mm_zi 5) (.inr (10, mm_fw3f30 (.int 0))) (mm_zi 5) []))) 2 3000 rfl ?_
        exact mm_xfn rfl
      refine mm_xk (S' := (8, [some (.ref 0), some (.int (xs 1)), some (.int (xs 2)), some (.int (xs 3)), some (.int (xs 4)), some (.int (xs 5))], [.int (xs 2)], (mm_fw3 (mm_zi 5) (.inr (10, mm_fw3f30 (.int 0))) (mm_zi 5) []))) 2 3000 rfl ?_
      refine mm_xcl (v := (some (.int 1))) (w1 := (mm_fw3 (mm_zi 5) (.inr (10, mm_fw3f30 (.int 0))) (mm_zi 5) [])) rfl ?_ ?_
      · skip
        refine mm_xk (S' := (1, [some (.int (xs 2))], [.int (xs 2)], (mm_fw3 (mm_zi 5) (.inr (10, mm_fw3f30 (.int 0))) (mm_zi 5) []))) 1 3000 rfl ?_
        refine mm_xif1 rfl false (mm_lt0 (a := (xs 2).toInt) (b := 0) rfl rfl (by omega)) rfl ?_
        refine mm_xk (S' := (7, [some (.int (xs 2))], [.int 65535, .int (xs 2)], (mm_fw3 (mm_zi 5) (.inr (10, mm_fw3f30 (.int 0))) (mm_zi 5) []))) 2 3000 rfl ?_
        refine mm_xif2 rfl false (mm_gt0 (a := (xs 2).toInt) (b := 65535) rfl rfl (by omega)) rfl ?_
        refine mm_xk (S' := (15, [some (.int (xs 2))], [.int 1], (mm_fw3 (mm_zi 5) (.inr (10, mm_fw3f30 (.int 0))) (mm_zi 5) []))) 2 3000 rfl ?_
        exact mm_xfn rfl
      refine mm_xk (S' := (15, [some (.ref 0), some (.int (xs 1)), some (.int (xs 2)), some (.int (xs 3)), some (.int (xs 4)), some (.int (xs 5))], [.int (xs 3)], (mm_fw3 (mm_zi 5) (.inr (10, mm_fw3f30 (.int 0))) (mm_zi 5) []))) 2 3000 rfl ?_
      refine mm_xcl (v := (some (.int 1))) (w1 := (mm_fw3 (mm_zi 5) (.inr (10, mm_fw3f30 (.int 0))) (mm_zi 5) [])) rfl ?_ ?_
      · skip
        refine mm_xk (S' := (1, [some (.int (xs 3))], [.int (xs 3)], (mm_fw3 (mm_zi 5) (.inr (10, mm_fw3f30 (.int 0))) (mm_zi 5) []))) 1 3000 rfl ?_
        refine mm_xif1 rfl false (mm_lt0 (a := (xs 3).toInt) (b := 0) rfl rfl (by omega)) rfl ?_
        refine mm_xk (S' := (7, [some (.int (xs 3))], [.int 65535, .int (xs 3)], (mm_fw3 (mm_zi 5) (.inr (10, mm_fw3f30 (.int 0))) (mm_zi 5) []))) 2 3000 rfl ?_
        refine mm_xif2 rfl false (mm_gt0 (a := (xs 3).toInt) (b := 65535) rfl rfl (by omega)) rfl ?_
        refine mm_xk (S' := (15, [some (.int (xs 3))], [.int 1], (mm_fw3 (mm_zi 5) (.inr (10, mm_fw3f30 (.int 0))) (mm_zi 5) []))) 2 3000 rfl ?_
        exact mm_xfn rfl
      refine mm_xk (S' := (23, [some (.ref 0), some (.int (xs 1)), some (.int (xs 2)), some (.int (xs 3)), some (.int (xs 4)), some (.int (xs 5))], [.int (xs 4)], (mm_fw3 (mm_zi 5) (.inr (10, mm_fw3f30 (.int 0))) (mm_zi 5) []))) 2 3000 rfl ?_
      refine mm_xcl (v := (some (.int 1))) (w1 := (mm_fw3 (mm_zi 5) (.inr (10, mm_fw3f30 (.int 0))) (mm_zi 5) [])) rfl ?_ ?_
      · skip
        refine mm_xk (S' := (1, [some (.int (xs 4))], [.int (xs 4)], (mm_fw3 (mm_zi 5) (.inr (10, mm_fw3f30 (.int 0))) (mm_zi 5) []))) 1 3000 rfl ?_
        refine mm_xif1 rfl false (mm_lt0 (a := (xs 4).toInt) (b := 0) rfl rfl (by omega)) rfl ?_
        refine mm_xk (S' := (7, [some (.int (xs 4))], [.int 65535, .int (xs 4)], (mm_fw3 (mm_zi 5) (.inr (10, mm_fw3f30 (.int 0))) (mm_zi 5) []))) 2 3000 rfl ?_
        refine mm_xif2 rfl false (mm_gt0 (a := (xs 4).toInt) (b := 65535) rfl rfl (by omega)) rfl ?_
        refine mm_xk (S' := (15, [some (.int (xs 4))], [.int 1], (mm_fw3 (mm_zi 5) (.inr (10, mm_fw3f30 (.int 0))) (mm_zi 5) []))) 2 3000 rfl ?_
        exact mm_xfn rfl
      refine mm_xk (S' := (31, [some (.ref 0), some (.int (xs 1)), some (.int (xs 2)), some (.int (xs 3)), some (.int (xs 4)), some (.int (xs 5))], [.int (xs 5)], (mm_fw3 (mm_zi 5) (.inr (10, mm_fw3f30 (.int 0))) (mm_zi 5) []))) 2 3000 rfl ?_
      refine mm_xcl (v := (some (.int 0))) (w1 := (mm_fw3 (mm_zi 5) (.inr (10, mm_fw3f30 (.int 0))) (mm_zi 5) [])) rfl ?_ ?_
      · skip
        refine mm_xk (S' := (1, [some (.int (xs 5))], [.int (xs 5)], (mm_fw3 (mm_zi 5) (.inr (10, mm_fw3f30 (.int 0))) (mm_zi 5) []))) 1 3000 rfl ?_
        refine mm_xif1 rfl false (mm_lt0 (a := (xs 5).toInt) (b := 0) rfl rfl (by omega)) rfl ?_
        refine mm_xk (S' := (7, [some (.int (xs 5))], [.int 65535, .int (xs 5)], (mm_fw3 (mm_zi 5) (.inr (10, mm_fw3f30 (.int 0))) (mm_zi 5) []))) 2 3000 rfl ?_
        refine mm_xif2 rfl true (mm_gt1 (a := (xs 5).toInt) (b := 65535) rfl rfl (by omega)) rfl ?_
        refine mm_xk (S' := (15, [some (.int (xs 5))], [.int 0], (mm_fw3 (mm_zi 5) (.inr (10, mm_fw3f30 (.int 0))) (mm_zi 5) []))) 1 3000 rfl ?_
        exact mm_xfn rfl
      refine mm_xk (S' := (48, [some (.ref 0), some (.int (xs 1)), some (.int (xs 2)), some (.int (xs 3)), some (.int (xs 4)), some (.int (xs 5))], [], (mm_fw3 (mm_zi 5) (.inr (10, mm_fw3f30 (.int 0))) (mm_zi 5) []))) 1 3000 rfl ?_
      exact mm_xfn rfl
    refine mm_xk (S' := (17, [some (.ref 0), some (.int (xs 1)), some (.int (xs 2)), some (.int (xs 3)), some (.int (xs 4)), some (.int (xs 5)), some (.ref 48)], [.int 1], (mm_fw3 (mm_zi 5) (.inr (10, mm_fw3f30 (.int 0))) (mm_zi 5) [.inr (11, [])]))) 2 3000 rfl ?_
    exact mm_xfn rfl
  refine mm_xk (S' := (465, [some (.ref 1000004), some (.ref 0), some (.ref 30), some (.ref 47), some (.int 0), some (.int 1), none], [.int (xs 5), .int (xs 4), .int (xs 3), .int (xs 2), .int (xs 1), .ref 30], (mm_fw3 (mm_zi 5) (.inr (10, mm_fw3f30 (.int 0))) (mm_zi 5) [.inr (11, [])]))) 27 3000 rfl ?_
  refine mm_xcl (v := none) (w1 := (mm_fw3 (mm_zi 5) (.inr (10, mm_fw3f30 (.int 1))) (mm_zi 5) [.inr (11, [])])) rfl ?_ ?_
  · skip
    refine mm_xk (S' := (4, [some (.ref 30), some (.int (xs 1)), some (.int (xs 2)), some (.int (xs 3)), some (.int (xs 4)), some (.int (xs 5)), none], [.int 65535, .int 0, .int (xs 1)], (mm_fw3 (mm_zi 5) (.inr (10, mm_fw3f30 (.int 0))) (mm_zi 5) [.inr (11, [])]))) 3 3000 rfl ?_
    refine mm_xcl (v := (some (.int 1))) (w1 := (mm_fw3 (mm_zi 5) (.inr (10, mm_fw3f30 (.int 0))) (mm_zi 5) [.inr (11, [])])) rfl ?_ ?_
    · skip
      refine mm_xk (S' := (2, [some (.int (xs 1)), some (.int 0), some (.int 65535)], [.int 0, .int (xs 1)], (mm_fw3 (mm_zi 5) (.inr (10, mm_fw3f30 (.int 0))) (mm_zi 5) [.inr (11, [])]))) 2 3000 rfl ?_
      refine mm_xif2 rfl false (mm_lt0 (a := (xs 1).toInt) (b := 0) rfl rfl (by omega)) rfl ?_
      refine mm_xk (S' := (7, [some (.int (xs 1)), some (.int 0), some (.int 65535)], [.int 65535, .int (xs 1)], (mm_fw3 (mm_zi 5) (.inr (10, mm_fw3f30 (.int 0))) (mm_zi 5) [.inr (11, [])]))) 2 3000 rfl ?_
      refine mm_xif2 rfl false (mm_gt0 (a := (xs 1).toInt) (b := 65535) rfl rfl (by omega)) rfl ?_
      refine mm_xk (S' := (15, [some (.int (xs 1)), some (.int 0), some (.int 65535)], [.int 1], (mm_fw3 (mm_zi 5) (.inr (10, mm_fw3f30 (.int 0))) (mm_zi 5) [.inr (11, [])]))) 2 3000 rfl ?_
      exact mm_xfn rfl
    refine mm_xk (S' := (14, [some (.ref 30), some (.int (xs 1)), some (.int (xs 2)), some (.int (xs 3)), some (.int (xs 4)), some (.int (xs 5)), none], [.int 65535, .int 0, .int (xs 2)], (mm_fw3 (mm_zi 5) (.inr (10, mm_fw3f30 (.int 0))) (mm_zi 5) [.inr (11, [])]))) 4 3000 rfl ?_
    refine mm_xcl (v := (some (.int 1))) (w1 := (mm_fw3 (mm_zi 5) (.inr (10, mm_fw3f30 (.int 0))) (mm_zi 5) [.inr (11, [])])) rfl ?_ ?_
    · skip
      refine mm_xk (S' := (2, [some (.int (xs 2)), some (.int 0), some (.int 65535)], [.int 0, .int (xs 2)], (mm_fw3 (mm_zi 5) (.inr (10, mm_fw3f30 (.int 0))) (mm_zi 5) [.inr (11, [])]))) 2 3000 rfl ?_
      refine mm_xif2 rfl false (mm_lt0 (a := (xs 2).toInt) (b := 0) rfl rfl (by omega)) rfl ?_
      refine mm_xk (S' := (7, [some (.int (xs 2)), some (.int 0), some (.int 65535)], [.int 65535, .int (xs 2)], (mm_fw3 (mm_zi 5) (.inr (10, mm_fw3f30 (.int 0))) (mm_zi 5) [.inr (11, [])]))) 2 3000 rfl ?_
      refine mm_xif2 rfl false (mm_gt0 (a := (xs 2).toInt) (b := 65535) rfl rfl (by omega)) rfl ?_
      refine mm_xk (S' := (15, [some (.int (xs 2)), some (.int 0), some (.int 65535)], [.int 1], (mm_fw3 (mm_zi 5) (.inr (10, mm_fw3f30 (.int 0))) (mm_zi 5) [.inr (11, [])]))) 2 3000 rfl ?_
      exact mm_xfn rfl
    refine mm_xk (S' := (24, [some (.ref 30), some (.int (xs 1)), some (.int (xs 2)), some (.int (xs 3)), some (.int (xs 4)), some (.int (xs 5)), none], [.int 65535, .int 0, .int (xs 3)], (mm_fw3 (mm_zi 5) (.inr (10, mm_fw3f30 (.int 0))) (mm_zi 5) [.inr (11, [])]))) 4 3000 rfl ?_
    refine mm_xcl (v := (some (.int 1))) (w1 := (mm_fw3 (mm_zi 5) (.inr (10, mm_fw3f30 (.int 0))) (mm_zi 5) [.inr (11, [])])) rfl ?_ ?_
    · skip
      refine mm_xk (S' := (2, [some (.int (xs 3)), some (.int 0), some (.int 65535)], [.int 0, .int (xs 3)], (mm_fw3 (mm_zi 5) (.inr (10, mm_fw3f30 (.int 0))) (mm_zi 5) [.inr (11, [])]))) 2 3000 rfl ?_
      refine mm_xif2 rfl false (mm_lt0 (a := (xs 3).toInt) (b := 0) rfl rfl (by omega)) rfl ?_
      refine mm_xk (S' := (7, [some (.int (xs 3)), some (.int 0), some (.int 65535)], [.int 65535, .int (xs 3)], (mm_fw3 (mm_zi 5) (.inr (10, mm_fw3f30 (.int 0))) (mm_zi 5) [.inr (11, [])]))) 2 3000 rfl ?_
      refine mm_xif2 rfl false (mm_gt0 (a := (xs 3).toInt) (b := 65535) rfl rfl (by omega)) rfl ?_
      refine mm_xk (S' := (15, [some (.int (xs 3)), some (.int 0), some (.int 65535)], [.int 1], (mm_fw3 (mm_zi 5) (.inr (10, mm_fw3f30 (.int 0))) (mm_zi 5) [.inr (11, [])]))) 2 3000 rfl ?_
      exact mm_xfn rfl
    refine mm_xk (S' := (35, [some (.ref 30), some (.int (xs 1)), some (.int (xs 2)), some (.int (xs 3)), some (.int (xs 4)), some (.int (xs 5)), none], [.int 65535, .int 0, .int (xs 4)], (mm_fw3 (mm_zi 5) (.inr (10, mm_fw3f30 (.int 0))) (mm_zi 5) [.inr (11, [])]))) 4 3000 rfl ?_
    refine mm_xcl (v := (some (.int 1))) (w1 := (mm_fw3 (mm_zi 5) (.inr (10, mm_fw3f30 (.int 0))) (mm_zi 5) [.inr (11, [])])) rfl ?_ ?_
    · skip
      refine mm_xk (S' := (2, [some (.int (xs 4)), some (.int 0), some (.int 65535)], [.int 0, .int (xs 4)], (mm_fw3 (mm_zi 5) (.inr (10, mm_fw3f30 (.int 0))) (mm_zi 5) [.inr (11, [])]))) 2 3000 rfl ?_
      refine mm_xif2 rfl false (mm_lt0 (a := (xs 4).toInt) (b := 0) rfl rfl (by omega)) rfl ?_
      refine mm_xk (S' := (7, [some (.int (xs 4)), some (.int 0), some (.int 65535)], [.int 65535, .int (xs 4)], (mm_fw3 (mm_zi 5) (.inr (10, mm_fw3f30 (.int 0))) (mm_zi 5) [.inr (11, [])]))) 2 3000 rfl ?_
      refine mm_xif2 rfl false (mm_gt0 (a := (xs 4).toInt) (b := 65535) rfl rfl (by omega)) rfl ?_
      refine mm_xk (S' := (15, [some (.int (xs 4)), some (.int 0), some (.int 65535)], [.int 1], (mm_fw3 (mm_zi 5) (.inr (10, mm_fw3f30 (.int 0))) (mm_zi 5) [.inr (11, [])]))) 2 3000 rfl ?_
      exact mm_xfn rfl
    refine mm_xk (S' := (46, [some (.ref 30), some (.int (xs 1)), some (.int (xs 2)), some (.int (xs 3)), some (.int (xs 4)), some (.int (xs 5)), none], [.int 65535, .int 0, .int (xs 5)], (mm_fw3 (mm_zi 5) (.inr (10, mm_fw3f30 (.int 0))) (mm_zi 5) [.inr (11, [])]))) 4 3000 rfl ?_
    refine mm_xcl (v := (some (.int 0))) (w1 := (mm_fw3 (mm_zi 5) (.inr (10, mm_fw3f30 (.int 0))) (mm_zi 5) [.inr (11, [])])) rfl ?_ ?_
    · skip
      refine mm_xk (S' := (2, [some (.int (xs 5)), some (.int 0), some (.int 65535)], [.int 0, .int (xs 5)], (mm_fw3 (mm_zi 5) (.inr (10, mm_fw3f30 (.int 0))) (mm_zi 5) [.inr (11, [])]))) 2 3000 rfl ?_
      refine mm_xif2 rfl false (mm_lt0 (a := (xs 5).toInt) (b := 0) rfl rfl (by omega)) rfl ?_
      refine mm_xk (S' := (7, [some (.int (xs 5)), some (.int 0), some (.int 65535)], [.int 65535, .int (xs 5)], (mm_fw3 (mm_zi 5) (.inr (10, mm_fw3f30 (.int 0))) (mm_zi 5) [.inr (11, [])]))) 2 3000 rfl ?_
      refine mm_xif2 rfl true (mm_gt1 (a := (xs 5).toInt) (b := 65535) rfl rfl (by omega)) rfl ?_
      refine mm_xk (S' := (15, [some (.int (xs 5)), some (.int 0), some (.int 65535)], [.int 0], (mm_fw3 (mm_zi 5) (.inr (10, mm_fw3f30 (.int 0))) (mm_zi 5) [.inr (11, [])]))) 1 3000 rfl ?_
      exact mm_xfn rfl
    refine mm_xk (S' := (81, [some (.ref 30), some (.int (xs 1)), some (.int (xs 2)), some (.int (xs 3)), some (.int (xs 4)), some (.int (xs 5)), some (.int 0)], [], (mm_fw3 (mm_zi 5) (.inr (10, mm_fw3f30 (.int 1))) (mm_zi 5) [.inr (11, [])]))) 8 3000 rfl ?_
    refine mm_xk (S' := (88, [some (.ref 30), some (.int (xs 1)), some (.int (xs 2)), some (.int (xs 3)), some (.int (xs 4)), some (.int (xs 5)), some (.int 0)], [], (mm_fw3 (mm_zi 5) (.inr (10, mm_fw3f30 (.int 1))) (mm_zi 5) [.inr (11, [])]))) 3 3000 rfl ?_
    exact mm_xfn rfl
  refine mm_xk (S' := (1092, [some (.ref 1000004), some (.ref 0), some (.ref 30), some (.ref 47), some (.int 9), some (.int 1), none], [], (mm_fw3 (mm_zi 5) (.inr (10, mm_fw3f30 (.int 1))) (mm_zi 5) [.inr (11, [])]))) 6 3000 rfl ?_
  refine mm_xk (S' := (1096, [some (.ref 1000004), some (.ref 0), some (.ref 30), some (.ref 47), some (.int 9), some (.int 1), none], [.int 1], (mm_fw3 (mm_zi 5) (.inr (10, mm_fw3f30 (.int 1))) (mm_zi 5) [.inr (11, [])]))) 8 3000 rfl ?_
  exact mm_xfn rfl
set_option maxRecDepth 100000 in
set_option maxHeartbeats 4000000 in
theorem mm_lf3_5 (xs : Nat → Int32) (l1 : 256 ≤ (xs 1).toInt) (u1 : (xs 1).toInt ≤ 65535) (l2 : 0 ≤ (xs 2).toInt) (u2 : (xs 2).toInt ≤ 65535) (l3 : 0 ≤ (xs 3).toInt) (u3 : (xs 3).toInt ≤ 65535) (l4 : 0 ≤ (xs 4).toInt) (u4 : (xs 4).toInt ≤ 65535) (l5 : 0 ≤ (xs 5).toInt) (u5 : (xs 5).toInt ≤ 65535) : mm_Ok xs 398 := by
  refine mm_Ok_of (w' := ((mm_w0.set 30 (.inr (10, (mm_f30.set 0 (.int 1))))) ++ [.inr (11, [])])) (mm_szP 6 (mm_szS 63 mm_sz0 rfl) rfl) rfl rfl ?_
  refine mm_xk (S' := (429, [some (.ref 1000004), some (.ref 0), some (.ref 30), some (.ref 47), some (.int 0), none, none], [.int (xs 5), .int (xs 4), .int (xs 3), .int (xs 2), .int (xs 1), .ref 0], (mm_fw3 (mm_zi 5) (.inr (10, mm_fw3f30 (.int 0))) (mm_zi 5) []))) 26 3000 rfl ?_
  refine mm_xcl (v := (some (.int 1))) (w1 := (mm_fw3 (mm_zi 5) (.inr (10, mm_fw3f30 (.int 0))) (mm_zi 5) [.inr (11, [])])) rfl ?_ ?_
  · skip
    refine mm_xk (S' := (8, [some (.ref 0), some (.int (xs 1)), some (.int (xs 2)), some (.int (xs 3)), some (.int (xs 4)), some (.int (xs 5)), none], [.int (xs 5), .int (xs 4), .int (xs 3), .int (xs 2), .int (xs 1), .ref 0], (mm_fw3 (mm_zi 5) (.inr (10, mm_fw3f30 (.int 0))) (mm_zi 5) []))) 6 3000 rfl ?_
    refine mm_xct (x := 11) (hp := 14) (w1 := (mm_fw3 (mm_zi 5) (.inr (10, mm_fw3f30 (.int 0))) (mm_zi 5) [.inr (11, [])])) rfl ?_ rfl ?_
    · skip
      refine mm_xk (S' := (1, [some (.ref 0), some (.int (xs 1)), some (.int (xs 2)), some (.int (xs 3)), some (.int (xs 4)), some (.int (xs 5))], [.int (xs 1)], (mm_fw3 (mm_zi 5) (.inr (10, mm_fw3f30 (.int 0))) (mm_zi 5) []))) 1 3000 rfl ?_
      refine mm_xcl (v := (some (.int 1))) (w1 := (mm_fw3 (mm_zi 5) (.inr (10, mm_fw3f30 (.int 0))) (mm_zi 5) [])) rfl ?_ ?_
      · skip
        refine mm_xk (S' := (1, [some (.int (xs 1))], [.int (xs 1)], (mm_fw3 (mm_zi 5) (.inr (10, mm_fw3f30 (.int 0))) (mm_zi 5) []))) 1 3000 rfl ?_
        refine mm_xif1 rfl false (mm_lt0 (a := (xs 1).toInt) (b := 0) rfl rfl (by omega)) rfl ?_
        refine mm_xk (S' := (7, [some (.int (xs 1))], [.int 65535, .int (xs 1)], (mm_fw3 (mm_zi 5) (.inr (10, mm_fw3f30 (.int 0))) (mm_zi 5) []))) 2 3000 rfl ?_
        refine mm_xif2 rfl false (mm_gt0 (a := (xs 1).toInt) (b := 65535) rfl rfl (by omega)) rfl ?_
        refine mm_xk (S' := (15, [some (.int (xs 1))], [.int 1], (mm_fw3 (mm_zi 5) (.inr (10, mm_fw3f30 (.int 0))) (mm_zi 5) []))) 2 3000 rfl ?_
        exact mm_xfn rfl
      refine mm_xk (S' := (8, [some (.ref 0), some (.int (xs 1)), some (.int (xs 2)), some (.int (xs 3)), some (.int (xs 4)), some (.int (xs 5))], [.int (xs 2)], (mm_fw3 (mm_zi 5) (.inr (10, mm_fw3f30 (.int 0))) (mm_zi 5) []))) 2 3000 rfl ?_
      refine mm_xcl (v := (some (.int 1))) (w1 := (mm_fw3 (mm_zi 5) (.inr (10, mm_fw3f30 (.int 0))) (mm_zi 5) [])) rfl ?_ ?_
      · skip
        refine mm_xk (S' := (1, [some (.int (xs 2))], [.int (xs 2)], (mm_fw3 (mm_zi 5) (.inr (10, mm_fw3f30 (.int 0))) (mm_zi 5) []))) 1 3000 rfl ?_
        refine mm_xif1 rfl false (mm_lt0 (a := (xs 2).toInt) (b := 0) rfl rfl (by omega)) rfl ?_
        refine mm_xk (S' := (7, [some (.int (xs 2))], [.int 65535, .int (xs 2)], (mm_fw3 (mm_zi 5) (.inr (10, mm_fw3f30 (.int 0))) (mm_zi 5) []))) 2 3000 rfl ?_
        refine mm_xif2 rfl false (mm_gt0 (a := (xs 2).toInt) (b := 65535) rfl rfl (by omega)) rfl ?_
        refine mm_xk (S' := (15, [some (.int (xs 2))], [.int 1], (mm_fw3 (mm_zi 5) (.inr (10, mm_fw3f30 (.int 0))) (mm_zi 5) []))) 2 3000 rfl ?_
        exact mm_xfn rfl
      refine mm_xk (S' := (15, [some (.ref 0), some (.int (xs 1)), some (.int (xs 2)), some (.int (xs 3)), some (.int (xs 4)), some (.int (xs 5))], [.int (xs 3)], (mm_fw3 (mm_zi 5) (.inr (10, mm_fw3f30 (.int 0))) (mm_zi 5) []))) 2 3000 rfl ?_
      refine mm_xcl (v := (some (.int 1))) (w1 := (mm_fw3 (mm_zi 5) (.inr (10, mm_fw3f30 (.int 0))) (mm_zi 5) [])) rfl ?_ ?_
      · skip
        refine mm_xk (S' := (1, [some (.int (xs 3))], [.int (xs 3)], (mm_fw3 (mm_zi 5) (.inr (10, mm_fw3f30 (.int 0))) (mm_zi 5) []))) 1 3000 rfl ?_
        refine mm_xif1 rfl false (mm_lt0 (a := (xs 3).toInt) (b := 0) rfl rfl (by omega)) rfl ?_
        refine mm_xk (S' := (7, [some (.int (xs 3))], [.int 65535, .int (xs 3)], (mm_fw3 (mm_zi 5) (.inr (10, mm_fw3f30 (.int 0))) (mm_zi 5) []))) 2 3000 rfl ?_
        refine mm_xif2 rfl false (mm_gt0 (a := (xs 3).toInt) (b := 65535) rfl rfl (by omega)) rfl ?_
        refine mm_xk (S' := (15, [some (.int (xs 3))], [.int 1], (mm_fw3 (mm_zi 5) (.inr (10, mm_fw3f30 (.int 0))) (mm_zi 5) []))) 2 3000 rfl ?_
        exact mm_xfn rfl
      refine mm_xk (S' := (23, [some (.ref 0), some (.int (xs 1)), some (.int (xs 2)), some (.int (xs 3)), some (.int (xs 4)), some (.int (xs 5))], [.int (xs 4)], (mm_fw3 (mm_zi 5) (.inr (10, mm_fw3f30 (.int 0))) (mm_zi 5) []))) 2 3000 rfl ?_
      refine mm_xcl (v := (some (.int 1))) (w1 := (mm_fw3 (mm_zi 5) (.inr (10, mm_fw3f30 (.int 0))) (mm_zi 5) [])) rfl ?_ ?_
      · skip
        refine mm_xk (S' := (1, [some (.int (xs 4))], [.int (xs 4)], (mm_fw3 (mm_zi 5) (.inr (10, mm_fw3f30 (.int 0))) (mm_zi 5) []))) 1 3000 rfl ?_
        refine mm_xif1 rfl false (mm_lt0 (a := (xs 4).toInt) (b := 0) rfl rfl (by omega)) rfl ?_
        refine mm_xk (S' := (7, [some (.int (xs 4))], [.int 65535, .int (xs 4)], (mm_fw3 (mm_zi 5) (.inr (10, mm_fw3f30 (.int 0))) (mm_zi 5) []))) 2 3000 rfl ?_
        refine mm_xif2 rfl false (mm_gt0 (a := (xs 4).toInt) (b := 65535) rfl rfl (by omega)) rfl ?_
        refine mm_xk (S' := (15, [some (.int (xs 4))], [.int 1], (mm_fw3 (mm_zi 5) (.inr (10, mm_fw3f30 (.int 0))) (mm_zi 5) []))) 2 3000 rfl ?_
        exact mm_xfn rfl
      refine mm_xk (S' := (31, [some (.ref 0), some (.int (xs 1)), some (.int (xs 2)), some (.int (xs 3)), some (.int (xs 4)), some (.int (xs 5))], [.int (xs 5)], (mm_fw3 (mm_zi 5) (.inr (10, mm_fw3f30 (.int 0))) (mm_zi 5) []))) 2 3000 rfl ?_
      refine mm_xcl (v := (some (.int 1))) (w1 := (mm_fw3 (mm_zi 5) (.inr (10, mm_fw3f30 (.int 0))) (mm_zi 5) [])) rfl ?_ ?_
      · skip
        refine mm_xk (S' := (1, [some (.int (xs 5))], [.int (xs 5)], (mm_fw3 (mm_zi 5) (.inr (10, mm_fw3f30 (.int 0))) (mm_zi 5) []))) 1 3000 rfl ?_
        refine mm_xif1 rfl false (mm_lt0 (a := (xs 5).toInt) (b := 0) rfl rfl (by omega)) rfl ?_
        refine mm_xk (S' := (7, [some (.int (xs 5))], [.int 65535, .int (xs 5)], (mm_fw3 (mm_zi 5) (.inr (10, mm_fw3f30 (.int 0))) (mm_zi 5) []))) 2 3000 rfl ?_
        refine mm_xif2 rfl false (mm_gt0 (a := (xs 5).toInt) (b := 65535) rfl rfl (by omega)) rfl ?_
        refine mm_xk (S' := (15, [some (.int (xs 5))], [.int 1], (mm_fw3 (mm_zi 5) (.inr (10, mm_fw3f30 (.int 0))) (mm_zi 5) []))) 2 3000 rfl ?_
        exact mm_xfn rfl
      refine mm_xk (S' := (45, [some (.ref 0), some (.int (xs 1)), some (.int (xs 2)), some (.int (xs 3)), some (.int (xs 4)), some (.int (xs 5))], [.int 255, .int (xs 1)], (mm_fw3 (mm_zi 5) (.inr (10, mm_fw3f30 (.int 0))) (mm_zi 5) []))) 5 3000 rfl ?_
      refine mm_xif2 rfl false (mm_le0 (a := (xs 1).toInt) (b := 255) rfl rfl (by omega)) rfl ?_
      exact mm_xfn rfl
    refine mm_xk (S' := (17, [some (.ref 0), some (.int (xs 1)), some (.int (xs 2)), some (.int (xs 3)), some (.int (xs 4)), some (.int (xs 5)), some (.ref 48)], [.int 1], (mm_fw3 (mm_zi 5) (.inr (10, mm_fw3f30 (.int 0))) (mm_zi 5) [.inr (11, [])]))) 2 3000 rfl ?_
    exact mm_xfn rfl
  refine mm_xk (S' := (465, [some (.ref 1000004), some (.ref 0), some (.ref 30), some (.ref 47), some (.int 0), some (.int 1), none], [.int (xs 5), .int (xs 4), .int (xs 3), .int (xs 2), .int (xs 1), .ref 30], (mm_fw3 (mm_zi 5) (.inr (10, mm_fw3f30 (.int 0))) (mm_zi 5) [.inr (11, [])]))) 27 3000 rfl ?_
  refine mm_xcl (v := none) (w1 := (mm_fw3 (mm_zi 5) (.inr (10, mm_fw3f30 (.int 1))) (mm_zi 5) [.inr (11, [])])) rfl ?_ ?_
  · skip
    refine mm_xk (S' := (4, [some (.ref 30), some (.int (xs 1)), some (.int (xs 2)), some (.int (xs 3)), some (.int (xs 4)), some (.int (xs 5)), none], [.int 65535, .int 0, .int (xs 1)], (mm_fw3 (mm_zi 5) (.inr (10, mm_fw3f30 (.int 0))) (mm_zi 5) [.inr (11, [])]))) 3 3000 rfl ?_
    refine mm_xcl (v := (some (.int 1))) (w1 := (mm_fw3 (mm_zi 5) (.inr (10, mm_fw3f30 (.int 0))) (mm_zi 5) [.inr (11, [])])) rfl ?_ ?_
    · skip
      refine mm_xk (S' := (2, [some (.int (xs 1)), some (.int 0), some (.int 65535)], [.int 0, .int (xs 1)], (mm_fw3 (mm_zi 5) (.inr (10, mm_fw3f30 (.int 0))) (mm_zi 5) [.inr (11, [])]))) 2 3000 rfl ?_
      refine mm_xif2 rfl false (mm_lt0 (a := (xs 1).toInt) (b := 0) rfl rfl (by omega)) rfl ?_
      refine mm_xk (S' := (7, [some (.int (xs 1)), some (.int 0), some (.int 65535)], [.int 65535, .int (xs 1)], (mm_fw3 (mm_zi 5) (.inr (10, mm_fw3f30 (.int 0))) (mm_zi 5) [.inr (11, [])]))) 2 3000 rfl ?_
      refine mm_xif2 rfl false (mm_gt0 (a := (xs 1).toInt) (b := 65535) rfl rfl (by omega)) rfl ?_
      refine mm_xk (S' := (15, [some (.int (xs 1)), some (.int 0), some (.int 65535)], [.int 1], (mm_fw3 (mm_zi 5) (.inr (10, mm_fw3f30 (.int 0))) (mm_zi 5) [.inr (11, [])]))) 2 3000 rfl ?_
      exact mm_xfn rfl
    refine mm_xk (S' := (14, [some (.ref 30), some (.int (xs 1)), some (.int (xs 2)), some (.int (xs 3)), some (.int (xs 4)), some (.int (xs 5)), none], [.int 65535, .int 0, .int (xs 2)], (mm_fw3 (mm_zi 5) (.inr (10, mm_fw3f30 (.int 0))) (mm_zi 5) [.inr (11, [])]))) 4 3000 rfl ?_
    refine mm_xcl (v := (some (.int 1))) (w1 := (mm_fw3 (mm_zi 5) (.inr (10, mm_fw3f30 (.int 0))) (mm_zi 5) [.inr (11, [])])) rfl ?_ ?_
    · skip
      refine mm_xk (S' := (2, [some (.int (xs 2)), some (.int 0), some (.int 65535)], [.int 0, .int (xs 2)], (mm_fw3 (mm_zi 5) (.inr (10, mm_fw3f30 (.int 0))) (mm_zi 5) [.inr (11, [])]))) 2 3000 rfl ?_
      refine mm_xif2 rfl false (mm_lt0 (a := (xs 2).toInt) (b := 0) rfl rfl (by omega)) rfl ?_
      refine mm_xk (S' := (7, [some (.int (xs 2)), some (.int 0), some (.int 65535)], [.int 65535, .int (xs 2)], (mm_fw3 (mm_zi 5) (.inr (10, mm_fw3f30 (.int 0))) (mm_zi 5) [.inr (11, [])]))) 2 3000 rfl ?_
      refine mm_xif2 rfl false (mm_gt0 (a := (xs 2).toInt) (b := 65535) rfl rfl (by omega)) rfl ?_
      refine mm_xk (S' := (15, [some (.int (xs 2)), some (.int 0), some (.int 65535)], [.int 1], (mm_fw3 (mm_zi 5) (.inr (10, mm_fw3f30 (.int 0))) (mm_zi 5) [.inr (11, [])]))) 2 3000 rfl ?_
      exact mm_xfn rfl
    refine mm_xk (S' := (24, [some (.ref 30), some (.int (xs 1)), some (.int (xs 2)), some (.int (xs 3)), some (.int (xs 4)), some (.int (xs 5)), none], [.int 65535, .int 0, .int (xs 3)], (mm_fw3 (mm_zi 5) (.inr (10, mm_fw3f30 (.int 0))) (mm_zi 5) [.inr (11, [])]))) 4 3000 rfl ?_
    refine mm_xcl (v := (some (.int 1))) (w1 := (mm_fw3 (mm_zi 5) (.inr (10, mm_fw3f30 (.int 0))) (mm_zi 5) [.inr (11, [])])) rfl ?_ ?_
    · skip
      refine mm_xk (S' := (2, [some (.int (xs 3)), some (.int 0), some (.int 65535)], [.int 0, .int (xs 3)], (mm_fw3 (mm_zi 5) (.inr (10, mm_fw3f30 (.int 0))) (mm_zi 5) [.inr (11, [])]))) 2 3000 rfl ?_
      refine mm_xif2 rfl false (mm_lt0 (a := (xs 3).toInt) (b := 0) rfl rfl (by omega)) rfl ?_
      refine mm_xk (S' := (7, [some (.int (xs 3)), some (.int 0), some (.int 65535)], [.int 65535, .int (xs 3)], (mm_fw3 (mm_zi 5) (.inr (10, mm_fw3f30 (.int 0))) (mm_zi 5) [.inr (11, [])]))) 2 3000 rfl ?_
      refine mm_xif2 rfl false (mm_gt0 (a := (xs 3).toInt) (b := 65535) rfl rfl (by omega)) rfl ?_
      refine mm_xk (S' := (15, [some (.int (xs 3)), some (.int 0), some (.int 65535)], [.int 1], (mm_fw3 (mm_zi 5) (.inr (10, mm_fw3f30 (.int 0))) (mm_zi 5) [.inr (11, [])]))) 2 3000 rfl ?_
      exact mm_xfn rfl
    refine mm_xk (S' := (35, [some (.ref 30), some (.int (xs 1)), some (.int (xs 2)), some (.int (xs 3)), some (.int (xs 4)), some (.int (xs 5)), none], [.int 65535, .int 0, .int (xs 4)], (mm_fw3 (mm_zi 5) (.inr (10, mm_fw3f30 (.int 0))) (mm_zi 5) [.inr (11, [])]))) 4 3000 rfl ?_
    refine mm_xcl (v := (some (.int 1))) (w1 := (mm_fw3 (mm_zi 5) (.inr (10, mm_fw3f30 (.int 0))) (mm_zi 5) [.inr (11, [])])) rfl ?_ ?_
    · skip
      refine mm_xk (S' := (2, [some (.int (xs 4)), some (.int 0), some (.int 65535)], [.int 0, .int (xs 4)], (mm_fw3 (mm_zi 5) (.inr (10, mm_fw3f30 (.int 0))) (mm_zi 5) [.inr (11, [])]))) 2 3000 rfl ?_
      refine mm_xif2 rfl false (mm_lt0 (a := (xs 4).toInt) (b := 0) rfl rfl (by omega)) rfl ?_
      refine mm_xk (S' := (7, [some (.int (xs 4)), some (.int 0), some (.int 65535)], [.int 65535, .int (xs 4)], (mm_fw3 (mm_zi 5) (.inr (10, mm_fw3f30 (.int 0))) (mm_zi 5) [.inr (11, [])]))) 2 3000 rfl ?_
      refine mm_xif2 rfl false (mm_gt0 (a := (xs 4).toInt) (b := 65535) rfl rfl (by omega)) rfl ?_
      refine mm_xk (S' := (15, [some (.int (xs 4)), some (.int 0), some (.int 65535)], [.int 1], (mm_fw3 (mm_zi 5) (.inr (10, mm_fw3f30 (.int 0))) (mm_zi 5) [.inr (11, [])]))) 2 3000 rfl ?_
      exact mm_xfn rfl
    refine mm_xk (S' := (46, [some (.ref 30), some (.int (xs 1)), some (.int (xs 2)), some (.int (xs 3)), some (.int (xs 4)), some (.int (xs 5)), none], [.int 65535, .int 0, .int (xs 5)], (mm_fw3 (mm_zi 5) (.inr (10, mm_fw3f30 (.int 0))) (mm_zi 5) [.inr (11, [])]))) 4 3000 rfl ?_
    refine mm_xcl (v := (some (.int 1))) (w1 := (mm_fw3 (mm_zi 5) (.inr (10, mm_fw3f30 (.int 0))) (mm_zi 5) [.inr (11, [])])) rfl ?_ ?_
    · skip
      refine mm_xk (S' := (2, [some (.int (xs 5)), some (.int 0), some (.int 65535)], [.int 0, .int (xs 5)], (mm_fw3 (mm_zi 5) (.inr (10, mm_fw3f30 (.int 0))) (mm_zi 5) [.inr (11, [])]))) 2 3000 rfl ?_
      refine mm_xif2 rfl false (mm_lt0 (a := (xs 5).toInt) (b := 0) rfl rfl (by omega)) rfl ?_
      refine mm_xk (S' := (7, [some (.int (xs 5)), some (.int 0), some (.int 65535)], [.int 65535, .int (xs 5)], (mm_fw3 (mm_zi 5) (.inr (10, mm_fw3f30 (.int 0))) (mm_zi 5) [.inr (11, [])]))) 2 3000 rfl ?_
      refine mm_xif2 rfl false (mm_gt0 (a := (xs 5).toInt) (b := 65535) rfl rfl (by omega)) rfl ?_
      refine mm_xk (S' := (15, [some (.int (xs 5)), some (.int 0), some (.int 65535)], [.int 1], (mm_fw3 (mm_zi 5) (.inr (10, mm_fw3f30 (.int 0))) (mm_zi 5) [.inr (11, [])]))) 2 3000 rfl ?_
      exact mm_xfn rfl
    refine mm_xk (S' := (70, [some (.ref 30), some (.int (xs 1)), some (.int (xs 2)), some (.int (xs 3)), some (.int (xs 4)), some (.int (xs 5)), some (.int 1)], [.int 255, .int (xs 1), .ref 30], (mm_fw3 (mm_zi 5) (.inr (10, mm_fw3f30 (.int 0))) (mm_zi 5) [.inr (11, [])]))) 10 3000 rfl ?_
    refine mm_xif2 rfl true (mm_gt1 (a := (xs 1).toInt) (b := 255) rfl rfl (by omega)) rfl ?_
    refine mm_xk (S' := (81, [some (.ref 30), some (.int (xs 1)), some (.int (xs 2)), some (.int (xs 3)), some (.int (xs 4)), some (.int (xs 5)), some (.int 1)], [], (mm_fw3 (mm_zi 5) (.inr (10, mm_fw3f30 (.int 1))) (mm_zi 5) [.inr (11, [])]))) 2 3000 rfl ?_
    refine mm_xk (S' := (88, [some (.ref 30), some (.int (xs 1)), some (.int (xs 2)), some (.int (xs 3)), some (.int (xs 4)), some (.int (xs 5)), some (.int 1)], [], (mm_fw3 (mm_zi 5) (.inr (10, mm_fw3f30 (.int 1))) (mm_zi 5) [.inr (11, [])]))) 3 3000 rfl ?_
    exact mm_xfn rfl
  refine mm_xk (S' := (1092, [some (.ref 1000004), some (.ref 0), some (.ref 30), some (.ref 47), some (.int 9), some (.int 1), none], [], (mm_fw3 (mm_zi 5) (.inr (10, mm_fw3f30 (.int 1))) (mm_zi 5) [.inr (11, [])]))) 6 3000 rfl ?_
  refine mm_xk (S' := (1096, [some (.ref 1000004), some (.ref 0), some (.ref 30), some (.ref 47), some (.int 9), some (.int 1), none], [.int 1], (mm_fw3 (mm_zi 5) (.inr (10, mm_fw3f30 (.int 1))) (mm_zi 5) [.inr (11, [])]))) 8 3000 rfl ?_
  exact mm_xfn rfl
