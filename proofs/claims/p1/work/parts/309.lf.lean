set_option maxRecDepth 100000 in
set_option maxHeartbeats 4000000 in
theorem mm_lf9_0 (xs : Nat → Int32) (l1 : 0 ≤ (xs 1).toInt) : mm_Ok xs 747 := by
  refine mm_Ok_of (w' := ((mm_w0.set 30 (.inr (10, [.int 1, .int 8, .int 8, .int 1, .int 8, .ref 31, .ref 32, .int 0, .int 0, .int 0, .int 0, .int 0, .ref 33, .ref 34, .int 0, .ref 35, .int 0, .int 0, .int 0, .int 0, .int 0, .int 0, .int 0, .int 0, .int 0, .int 0, .int 0, .ref 36, .ref 37, .ref 38, .ref 39, .ref 40, .ref 41, .ref 42, .ref 43, .int 0, .int 0, .int 0, .int 0, .int 0, .ref 44, .int 0, .int 0, .int 0, .int 0, .int 0, .int 0, .int 0, .int 0, .int 0, .int 0, .int (-1), .int 0, .int 0, .int 0, .ref 45, .ref 46, .int 0, .int 0, .int 0, .int 0, .int 0, .int 0]))) ++ [.inr (13, [])])) (mm_szP 6 (mm_szS 63 mm_sz0 rfl) rfl) rfl rfl ?_
  refine mm_xk (S' := (761, [some (.ref 1000004), some (.ref 0), some (.ref 30), some (.ref 47), some (.int 0), none, none], [.ref 47, .int (xs 2), .int (xs 1), .ref 0], mm_w0)) 12 3000 rfl ?_
  refine mm_xcall (v := (some (.int 1))) (w1 := (mm_w0 ++ [.inr (13, [])])) rfl ?_ ?_
  · skip
    refine mm_xk (S' := (5, [some (.ref 0), some (.int (xs 1)), some (.int (xs 2)), some (.ref 47), none], [.int (xs 2), .int (xs 1), .ref 0, .int 0, .ref 47], mm_w0)) 5 3000 rfl ?_
    refine mm_xcaught (x := 13) (hp := 13) (w1 := (mm_w0 ++ [.inr (13, [])])) rfl ?_ rfl ?_
    · skip
      refine mm_xk (S' := (1, [some (.ref 0), some (.int (xs 1)), some (.int (xs 2)), none], [.int (xs 1)], mm_w0)) 1 3000 rfl ?_
      refine mm_xif1 rfl false (mm_lt0 (a := (xs 1).toInt) (b := 0) rfl rfl (by omega)) rfl ?_
      refine mm_xk (S' := (12, [some (.ref 0), some (.int (xs 1)), some (.int (xs 2)), none], [.int 0, .int (xs 1)], mm_w0)) 4 3000 rfl ?_
      refine mm_xif2 rfl false (mm_lt0 (a := (xs 1).toInt) (b := 0) rfl rfl (by omega)) rfl ?_
      exact mm_xfin rfl
    refine mm_xk (S' := (16, [some (.ref 0), some (.int (xs 1)), some (.int (xs 2)), some (.ref 47), some (.ref 48)], [.int 1], (mm_w0 ++ [.inr (13, [])]))) 2 3000 rfl ?_
    exact mm_xfin rfl
  refine mm_xk (S' := (779, [some (.ref 1000004), some (.ref 0), some (.ref 30), some (.ref 47), some (.int 0), some (.int 1), none], [.int (xs 2), .int (xs 1), .ref 30], (mm_w0 ++ [.inr (13, [])]))) 12 3000 rfl ?_
  refine mm_xcall (v := (some (.int 0))) (w1 := ((mm_w0.set 30 (.inr (10, [.int 1, .int 8, .int 8, .int 1, .int 8, .ref 31, .ref 32, .int 0, .int 0, .int 0, .int 0, .int 0, .ref 33, .ref 34, .int 0, .ref 35, .int 0, .int 0, .int 0, .int 0, .int 0, .int 0, .int 0, .int 0, .int 0, .int 0, .int 0, .ref 36, .ref 37, .ref 38, .ref 39, .ref 40, .ref 41, .ref 42, .ref 43, .int 0, .int 0, .int 0, .int 0, .int 0, .ref 44, .int 0, .int 0, .int 0, .int 0, .int 0, .int 0, .int 0, .int 0, .int 0, .int 0, .int (-1), .int 0, .int 0, .int 0, .ref 45, .ref 46, .int 0, .int 0, .int 0, .int 0, .int 0, .int 0]))) ++ [.inr (13, [])])) rfl ?_ ?_
  · skip
    refine mm_xk (S' := (2, [some (.ref 30), some (.int (xs 1)), some (.int (xs 2))], [.int (xs 1), .ref 30], (mm_w0 ++ [.inr (13, [])]))) 2 3000 rfl ?_
    refine mm_xif1 rfl false (mm_lt0 (a := (xs 1).toInt) (b := 0) rfl rfl (by omega)) rfl ?_
    refine mm_xk (S' := (10, [some (.ref 30), some (.int (xs 1)), some (.int (xs 2))], [.int 0, .int (xs 1), .ref 30], (mm_w0 ++ [.inr (13, [])]))) 3 3000 rfl ?_
    refine mm_xif2 rfl false (mm_lt0 (a := (xs 1).toInt) (b := 0) rfl rfl (by omega)) rfl ?_
    refine mm_xk (S' := (44, [some (.ref 30), some (.int (xs 1)), some (.int (xs 2))], [.int 0], ((mm_w0.set 30 (.inr (10, [.int 1, .int 8, .int 8, .int 1, .int 8, .ref 31, .ref 32, .int 0, .int 0, .int 0, .int 0, .int 0, .ref 33, .ref 34, .int 0, .ref 35, .int 0, .int 0, .int 0, .int 0, .int 0, .int 0, .int 0, .int 0, .int 0, .int 0, .int 0, .ref 36, .ref 37, .ref 38, .ref 39, .ref 40, .ref 41, .ref 42, .ref 43, .int 0, .int 0, .int 0, .int 0, .int 0, .ref 44, .int 0, .int 0, .int 0, .int 0, .int 0, .int 0, .int 0, .int 0, .int 0, .int 0, .int (-1), .int 0, .int 0, .int 0, .ref 45, .ref 46, .int 0, .int 0, .int 0, .int 0, .int 0, .int 0]))) ++ [.inr (13, [])]))) 7 3000 rfl ?_
    exact mm_xfin rfl
  refine mm_xk (S' := (1096, [some (.ref 1000004), some (.ref 0), some (.ref 30), some (.ref 47), some (.int 9), some (.int 1), some (.int 0)], [.int 1], ((mm_w0.set 30 (.inr (10, [.int 1, .int 8, .int 8, .int 1, .int 8, .ref 31, .ref 32, .int 0, .int 0, .int 0, .int 0, .int 0, .ref 33, .ref 34, .int 0, .ref 35, .int 0, .int 0, .int 0, .int 0, .int 0, .int 0, .int 0, .int 0, .int 0, .int 0, .int 0, .ref 36, .ref 37, .ref 38, .ref 39, .ref 40, .ref 41, .ref 42, .ref 43, .int 0, .int 0, .int 0, .int 0, .int 0, .ref 44, .int 0, .int 0, .int 0, .int 0, .int 0, .int 0, .int 0, .int 0, .int 0, .int 0, .int (-1), .int 0, .int 0, .int 0, .ref 45, .ref 46, .int 0, .int 0, .int 0, .int 0, .int 0, .int 0]))) ++ [.inr (13, [])]))) 17 3000 rfl ?_
  exact mm_xfin rfl
set_option maxRecDepth 100000 in
set_option maxHeartbeats 4000000 in
theorem mm_lf9_1 (xs : Nat → Int32) (u1 : (xs 1).toInt ≤ -1) : mm_Ok xs 747 := by
  refine mm_Ok_of (w' := ((mm_w0.set 30 (.inr (10, [.int 1, .int 8, .int 8, .int 1, .int 8, .ref 31, .ref 32, .int 0, .int 0, .int 0, .int 0, .int 0, .ref 33, .ref 34, .int 0, .ref 35, .int 0, .int 0, .int 0, .int 0, .int 0, .int 0, .int 0, .int 0, .int 0, .int 0, .int 0, .ref 36, .ref 37, .ref 38, .ref 39, .ref 40, .ref 41, .ref 42, .ref 43, .int 0, .int 0, .int 0, .int 0, .int 0, .ref 44, .int 0, .int 0, .int 0, .int 0, .int 0, .int 0, .int 0, .int 0, .int 0, .int 0, .int (-1), .int 0, .int 0, .int 0, .ref 45, .ref 46, .int 0, .int 0, .int 0, .int 0, .int 0, .int 0]))) ++ [.inr (13, [])])) (mm_szP 6 (mm_szS 63 mm_sz0 rfl) rfl) rfl rfl ?_
  refine mm_xk (S' := (761, [some (.ref 1000004), some (.ref 0), some (.ref 30), some (.ref 47), some (.int 0), none, none], [.ref 47, .int (xs 2), .int (xs 1), .ref 0], mm_w0)) 12 3000 rfl ?_
  refine mm_xcall (v := (some (.int 1))) (w1 := (mm_w0 ++ [.inr (13, [])])) rfl ?_ ?_
  · skip
    refine mm_xk (S' := (5, [some (.ref 0), some (.int (xs 1)), some (.int (xs 2)), some (.ref 47), none], [.int (xs 2), .int (xs 1), .ref 0, .int 0, .ref 47], mm_w0)) 5 3000 rfl ?_
    refine mm_xcaught (x := 13) (hp := 13) (w1 := (mm_w0 ++ [.inr (13, [])])) rfl ?_ rfl ?_
    · skip
      refine mm_xk (S' := (1, [some (.ref 0), some (.int (xs 1)), some (.int (xs 2)), none], [.int (xs 1)], mm_w0)) 1 3000 rfl ?_
      refine mm_xif1 rfl true (mm_lt1 (a := (xs 1).toInt) (b := 0) rfl rfl (by omega)) rfl ?_
      exact mm_xfin rfl
    refine mm_xk (S' := (16, [some (.ref 0), some (.int (xs 1)), some (.int (xs 2)), some (.ref 47), some (.ref 48)], [.int 1], (mm_w0 ++ [.inr (13, [])]))) 2 3000 rfl ?_
    exact mm_xfin rfl
  refine mm_xk (S' := (779, [some (.ref 1000004), some (.ref 0), some (.ref 30), some (.ref 47), some (.int 0), some (.int 1), none], [.int (xs 2), .int (xs 1), .ref 30], (mm_w0 ++ [.inr (13, [])]))) 12 3000 rfl ?_
  refine mm_xcall (v := (some (.int 0))) (w1 := ((mm_w0.set 30 (.inr (10, [.int 1, .int 8, .int 8, .int 1, .int 8, .ref 31, .ref 32, .int 0, .int 0, .int 0, .int 0, .int 0, .ref 33, .ref 34, .int 0, .ref 35, .int 0, .int 0, .int 0, .int 0, .int 0, .int 0, .int 0, .int 0, .int 0, .int 0, .int 0, .ref 36, .ref 37, .ref 38, .ref 39, .ref 40, .ref 41, .ref 42, .ref 43, .int 0, .int 0, .int 0, .int 0, .int 0, .ref 44, .int 0, .int 0, .int 0, .int 0, .int 0, .int 0, .int 0, .int 0, .int 0, .int 0, .int (-1), .int 0, .int 0, .int 0, .ref 45, .ref 46, .int 0, .int 0, .int 0, .int 0, .int 0, .int 0]))) ++ [.inr (13, [])])) rfl ?_ ?_
  · skip
    refine mm_xk (S' := (2, [some (.ref 30), some (.int (xs 1)), some (.int (xs 2))], [.int (xs 1), .ref 30], (mm_w0 ++ [.inr (13, [])]))) 2 3000 rfl ?_
    refine mm_xif1 rfl true (mm_lt1 (a := (xs 1).toInt) (b := 0) rfl rfl (by omega)) rfl ?_
    refine mm_xk (S' := (44, [some (.ref 30), some (.int (xs 1)), some (.int (xs 2))], [.int 0], ((mm_w0.set 30 (.inr (10, [.int 1, .int 8, .int 8, .int 1, .int 8, .ref 31, .ref 32, .int 0, .int 0, .int 0, .int 0, .int 0, .ref 33, .ref 34, .int 0, .ref 35, .int 0, .int 0, .int 0, .int 0, .int 0, .int 0, .int 0, .int 0, .int 0, .int 0, .int 0, .ref 36, .ref 37, .ref 38, .ref 39, .ref 40, .ref 41, .ref 42, .ref 43, .int 0, .int 0, .int 0, .int 0, .int 0, .ref 44, .int 0, .int 0, .int 0, .int 0, .int 0, .int 0, .int 0, .int 0, .int 0, .int 0, .int (-1), .int 0, .int 0, .int 0, .ref 45, .ref 46, .int 0, .int 0, .int 0, .int 0, .int 0, .int 0]))) ++ [.inr (13, [])]))) 7 3000 rfl ?_
    exact mm_xfin rfl
  refine mm_xk (S' := (1096, [some (.ref 1000004), some (.ref 0), some (.ref 30), some (.ref 47), some (.int 9), some (.int 1), some (.int 0)], [.int 1], ((mm_w0.set 30 (.inr (10, [.int 1, .int 8, .int 8, .int 1, .int 8, .ref 31, .ref 32, .int 0, .int 0, .int 0, .int 0, .int 0, .ref 33, .ref 34, .int 0, .ref 35, .int 0, .int 0, .int 0, .int 0, .int 0, .int 0, .int 0, .int 0, .int 0, .int 0, .int 0, .ref 36, .ref 37, .ref 38, .ref 39, .ref 40, .ref 41, .ref 42, .ref 43, .int 0, .int 0, .int 0, .int 0, .int 0, .ref 44, .int 0, .int 0, .int 0, .int 0, .int 0, .int 0, .int 0, .int 0, .int 0, .int 0, .int (-1), .int 0, .int 0, .int 0, .ref 45, .ref 46, .int 0, .int 0, .int 0, .int 0, .int 0, .int 0]))) ++ [.inr (13, [])]))) 17 3000 rfl ?_
  exact mm_xfin rfl
