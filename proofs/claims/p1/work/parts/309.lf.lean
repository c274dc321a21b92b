def mm_fw9f30 (x0 : Value) : List Value := [x0, .int 8, .int 8, .int 1, .int 8, .ref 31, .ref 32, .int 0, .int 0, .int 0, .int 0, .int 0, .ref 33, .ref 34, .int 0, .ref 35, .int 0, .int 0, .int 0, .int 0, .int 0, .int 0, .int 0, .int 0, .int 0, .int 0, .int 0, .ref 36, .ref 37, .ref 38, .ref 39, .ref 40, .ref 41, .ref 42, .ref 43, .int 0, .int 0, .int 0, .int 0, .int 0, .ref 44, .int 0, .int 0, .int 0, .int 0, .int 0, .int 0, .int 0, .int 0, .int 0, .int 0, .int (-1), .int 0, .int 0, .int 0, .ref 45, .ref 46, .int 0, .int 0, .int 0, .int 0, .int 0, .int 0]
def mm_fw9 (x30 : mm_E) (t : mm_W) : mm_W := .inr (0, mm_f0) :: .inr (2, mm_f1) :: mm_zi 0 :: mm_zi 5 :: .inr (1, mm_f4) :: mm_zb 64 :: .inr (1, mm_f6) :: mm_zb 64 :: .inr (3, mm_f8) :: .inr (4, mm_f9) :: mm_zi 1468 :: mm_zi 1468 :: .inr (5, mm_f12) :: mm_zi 66 :: mm_zi 66 :: mm_zi 0 :: .inr (7, mm_f16) :: .inr (9, mm_f17) :: mm_zi 5 :: mm_zi 3 :: .inr (8, mm_f20) :: .inr (6, mm_f21) :: mm_zi 66 :: mm_zi 66 :: mm_zi 0 :: .inr (2, mm_f25) :: mm_zi 0 :: .inr (2, mm_f27) :: mm_zi 0 :: mm_zi 64 :: x30 :: mm_zi 12288 :: mm_zi 5 :: mm_zi 12288 :: mm_zb 32768 :: mm_zb 65536 :: mm_zi 367 :: mm_zi 367 :: mm_zi 367 :: mm_zi 367 :: mm_zi 367 :: mm_zi 367 :: mm_zi 367 :: mm_zi 367 :: mm_zi 12288 :: mm_zi 3 :: mm_zi 5 :: .inl (.long, 1, .inr (.inl (fun _ => 0))) :: t

set_option maxRecDepth 100000 in
set_option maxHeartbeats 4000000 in
theorem mm_lf9_0 (xs : Nat → Int32) (l1 : 0 ≤ (xs 1).toInt) : mm_Ok xs 747 := by
  refine mm_Ok_of (w' := ((mm_w0.set 30 (.inr (10, (mm_f30.set 0 (.int 1))))) ++ [.inr (13, [])])) (mm_szP 6 (mm_szS 63 mm_sz0 rfl) rfl) rfl rfl ?_
  refine mm_xk (S' := (761, [some (.ref 1000004), some (.ref 0), some (.ref 30), some (.ref 47), some (.int 0), none, none], [.ref 47, .int (xs 2), .int (xs 1), .ref 0], (mm_fw9 (.inr (10, mm_fw9f30 (.int 0))) []))) 12 3000 rfl ?_
  refine mm_xcl (v := (some (.int 1))) (w1 := (mm_fw9 (.inr (10, mm_fw9f30 (.int 0))) [.inr (13, [])])) rfl ?_ ?_
  · skip
    refine mm_xk (S' := (5, [some (.ref 0), some (.int (xs 1)), some (.int (xs 2)), some (.ref 47), none], [.int (xs 2), .int (xs 1), .ref 0, .int 0, .ref 47], (mm_fw9 (.inr (10, mm_fw9f30 (.int 0))) []))) 5 3000 rfl ?_
    refine mm_xct (x := 13) (hp := 13) (w1 := (mm_fw9 (.inr (10, mm_fw9f30 (.int 0))) [.inr (13, [])])) rfl ?_ rfl ?_
    · skip
      refine mm_xk (S' := (1, [some (.ref 0), some (.int (xs 1)), some (.int (xs 2)), none], [.int (xs 1)], (mm_fw9 (.inr (10, mm_fw9f30 (.int 0))) []))) 1 3000 rfl ?_
      refine mm_xif1 rfl false (mm_lt0 (a := (xs 1).toInt) (b := 0) rfl rfl (by omega)) rfl ?_
      refine mm_xk (S' := (12, [some (.ref 0), some (.int (xs 1)), some (.int (xs 2)), none], [.int 0, .int (xs 1)], (mm_fw9 (.inr (10, mm_fw9f30 (.int 0))) []))) 4 3000 rfl ?_
      refine mm_xif2 rfl false (mm_lt0 (a := (xs 1).toInt) (b := 0) rfl rfl (by omega)) rfl ?_
      exact mm_xfn rfl
    refine mm_xk (S' := (16, [some (.ref 0), some (.int (xs 1)), some (.int (xs 2)), some (.ref 47), some (.ref 48)], [.int 1], (mm_fw9 (.inr (10, mm_fw9f30 (.int 0))) [.inr (13, [])]))) 2 3000 rfl ?_
    exact mm_xfn rfl
  refine mm_xk (S' := (779, [some (.ref 1000004), some (.ref 0), some (.ref 30), some (.ref 47), some (.int 0), some (.int 1), none], [.int (xs 2), .int (xs 1), .ref 30], (mm_fw9 (.inr (10, mm_fw9f30 (.int 0))) [.inr (13, [])]))) 12 3000 rfl ?_
  refine mm_xcl (v := (some (.int 0))) (w1 := (mm_fw9 (.inr (10, mm_fw9f30 (.int 1))) [.inr (13, [])])) rfl ?_ ?_
  · skip
    refine mm_xk (S' := (2, [some (.ref 30), some (.int (xs 1)), some (.int (xs 2))], [.int (xs 1), .ref 30], (mm_fw9 (.inr (10, mm_fw9f30 (.int 0))) [.inr (13, [])]))) 2 3000 rfl ?_
    refine mm_xif1 rfl false (mm_lt0 (a := (xs 1).toInt) (b := 0) rfl rfl (by omega)) rfl ?_
    refine mm_xk (S' := (10, [some (.ref 30), some (.int (xs 1)), some (.int (xs 2))], [.int 0, .int (xs 1), .ref 30], (mm_fw9 (.inr (10, mm_fw9f30 (.int 0))) [.inr (13, [])]))) 3 3000 rfl ?_
    refine mm_xif2 rfl false (mm_lt0 (a := (xs 1).toInt) (b := 0) rfl rfl (by omega)) rfl ?_
    refine mm_xk (S' := (36, [some (.ref 30), some (.int (xs 1)), some (.int (xs 2))], [], (mm_fw9 (.inr (10, mm_fw9f30 (.int 1))) [.inr (13, [])]))) 3 3000 rfl ?_
    refine mm_xk (S' := (44, [some (.ref 30), some (.int (xs 1)), some (.int (xs 2))], [.int 0], (mm_fw9 (.inr (10, mm_fw9f30 (.int 1))) [.inr (13, [])]))) 4 3000 rfl ?_
    exact mm_xfn rfl
  refine mm_xk (S' := (1092, [some (.ref 1000004), some (.ref 0), some (.ref 30), some (.ref 47), some (.int 9), some (.int 1), some (.int 0)], [], (mm_fw9 (.inr (10, mm_fw9f30 (.int 1))) [.inr (13, [])]))) 9 3000 rfl ?_
  refine mm_xk (S' := (1096, [some (.ref 1000004), some (.ref 0), some (.ref 30), some (.ref 47), some (.int 9), some (.int 1), some (.int 0)], [.int 1], (mm_fw9 (.inr (10, mm_fw9f30 (.int 1))) [.inr (13, [])]))) 8 3000 rfl ?_
  exact mm_xfn rfl
set_option maxRecDepth 100000 in
set_option maxHeartbeats 4000000 in
theorem mm_lf9_1 (xs : Nat → Int32) (u1 : (xs 1).toInt ≤ -1) : mm_Ok xs 747 := by
  refine mm_Ok_of (w' := ((mm_w0.set 30 (.inr (10, (mm_f30.set 0 (.int 1))))) ++ [.inr (13, [])])) (mm_szP 6 (mm_szS 63 mm_sz0 rfl) rfl) rfl rfl ?_
  refine mm_xk (S' := (761, [some (.ref 1000004), some (.ref 0), some (.ref 30), some (.ref 47), some (.int 0), none, none], [.ref 47, .int (xs 2), .int (xs 1), .ref 0], (mm_fw9 (.inr (10, mm_fw9f30 (.int 0))) []))) 12 3000 rfl ?_
  refine mm_xcl (v := (some (.int 1))) (w1 := (mm_fw9 (.inr (10, mm_fw9f30 (.int 0))) [.inr (13, [])])) rfl ?_ ?_
  · skip
    refine mm_xk (S' := (5, [some (.ref 0), some (.int (xs 1)), some (.int (xs 2)), some (.ref 47), none], [.int (xs 2), .int (xs 1), .ref 0, .int 0, .ref 47], (mm_fw9 (.inr (10, mm_fw9f30 (.int 0))) []))) 5 3000 rfl ?_
    refine mm_xct (x := 13) (hp := 13) (w1 := (mm_fw9 (.inr (10, mm_fw9f30 (.int 0))) [.inr (13, [])])) rfl ?_ rfl ?_
    · skip
      refine mm_xk (S' := (1, [some (.ref 0), some (.int (xs 1)), some (.int (xs 2)), none], [.int (xs 1)], (mm_fw9 (.inr (10, mm_fw9f30 (.int 0))) []))) 1 3000 rfl ?_
      refine mm_xif1 rfl true (mm_lt1 (a := (xs 1).toInt) (b := 0) rfl rfl (by omega)) rfl ?_
      exact mm_xfn rfl
    refine mm_xk (S' := (16, [some (.ref 0), some (.int (xs 1)), some (.int (xs 2)), some (.ref 47), some (.ref 48)], [.int 1], (mm_fw9 (.inr (10, mm_fw9f30 (.int 0))) [.inr (13, [])]))) 2 3000 rfl ?_
    exact mm_xfn rfl
  refine mm_xk (S' := (779, [some (.ref 1000004), some (.ref 0), some (.ref 30), some (.ref 47), some (.int 0), some (.int 1), none], [.int (xs 2), .int (xs 1), .ref 30], (mm_fw9 (.inr (10, mm_fw9f30 (.int 0))) [.inr (13, [])]))) 12 3000 rfl ?_
  refine mm_xcl (v := (some (.int 0))) (w1 := (mm_fw9 (.inr (10, mm_fw9f30 (.int 1))) [.inr (13, [])])) rfl ?_ ?_
  · skip
    refine mm_xk (S' := (2, [some (.ref 30), some (.int (xs 1)), some (.int (xs 2))], [.int (xs 1), .ref 30], (mm_fw9 (.inr (10, mm_fw9f30 (.int 0))) [.inr (13, [])]))) 2 3000 rfl ?_
    refine mm_xif1 rfl true (mm_lt1 (a := (xs 1).toInt) (b := 0) rfl rfl (by omega)) rfl ?_
    refine mm_xk (S' := (36, [some (.ref 30), some (.int (xs 1)), some (.int (xs 2))], [], (mm_fw9 (.inr (10, mm_fw9f30 (.int 1))) [.inr (13, [])]))) 3 3000 rfl ?_
    refine mm_xk (S' := (44, [some (.ref 30), some (.int (xs 1)), some (.int (xs 2))], [.int 0], (mm_fw9 (.inr (10, mm_fw9f30 (.int 1))) [.inr (13, [])]))) 4 3000 rfl ?_
    exact mm_xfn rfl
  refine mm_xk (S' := (1092, [some (.ref 1000004), some (.ref 0), some (.ref 30), some (.ref 47), some (.int 9), some (.int 1), some (.int 0)], [], (mm_fw9 (.inr (10, mm_fw9f30 (.int 1))) [.inr (13, [])]))) 9 3000 rfl ?_
  refine mm_xk (S' := (1096, [some (.ref 1000004), some (.ref 0), some (.ref 30), some (.ref 47), some (.int 9), some (.int 1), some (.int 0)], [.int 1], (mm_fw9 (.inr (10, mm_fw9f30 (.int 1))) [.inr (13, [])]))) 8 3000 rfl ?_
  exact mm_xfn rfl
