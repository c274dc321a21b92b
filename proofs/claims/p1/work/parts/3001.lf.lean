set_option maxRecDepth 100000 in
set_option maxHeartbeats 4000000 in
theorem mm_lf0_1 (xs : Nat → Int32) (l1 : 1 ≤ (xs 1).toInt) (u1 : (xs 1).toInt ≤ 64) (l2 : 65 ≤ (xs 2).toInt) : mm_Ok xs 120 := by
  refine mm_Ok_of (w' := ((mm_w0.set 30 (.inr (10, [.int 1, .int 8, .int 8, .int 1, .int 8, .ref 31, .ref 32, .int 0, .int 0, .int 0, .int 0, .int 0, .ref 33, .ref 34, .int 0, .ref 35, .int 0, .int 0, .int 0, .int 0, .int 0, .int 0, .int 0, .int 0, .int 0, .int 0, .int 0, .ref 36, .ref 37, .ref 38, .ref 39, .ref 40, .ref 41, .ref 42, .ref 43, .int 0, .int 0, .int 0, .int 0, .int 0, .ref 44, .int 0, .int 0, .int 0, .int 0, .int 0, .int 0, .int 0, .int 0, .int 0, .int 0, .int (-1), .int 0, .int 0, .int 0, .ref 45, .ref 46, .int 0, .int 0, .int 0, .int 0, .int 0, .int 0]))) ++ [.inr (11, [])])) (mm_szP 6 (mm_szS 63 mm_sz0 rfl) rfl) rfl rfl ?_
  refine mm_xk (S' := (145, [some (.ref 1000004), some (.ref 0), some (.ref 30), some (.ref 47), some (.int 0), none, none], [.int (xs 4), .int (xs 3), .int (xs 2), .int (xs 1), .ref 0], mm_w0)) 21 3000 rfl ?_
  refine mm_xcall (v := (some (.int 1))) (w1 := (mm_w0 ++ [.inr (11, [])])) rfl ?_ ?_
  · skip
    refine mm_xk (S' := (6, [some (.ref 0), some (.int (xs 1)), some (.int (xs 2)), some (.int (xs 3)), some (.int (xs 4)), none], [.int (xs 4), .int (xs 3), .int (xs 2), .int (xs 1), .ref 0], mm_w0)) 5 3000 rfl ?_
    refine mm_xcaught (x := 11) (hp := 12) (w1 := (mm_w0 ++ [.inr (11, [])])) rfl ?_ rfl ?_
    · skip
      refine mm_xk (S' := (1, [some (.ref 0), some (.int (xs 1)), some (.int (xs 2)), some (.int (xs 3)), some (.int (xs 4))], [.int (xs 1)], mm_w0)) 1 3000 rfl ?_
      refine mm_xcall (v := (some (.int 1))) (w1 := mm_w0) rfl ?_ ?_
      · skip
        refine mm_xk (S' := (2, [some (.int (xs 1))], [.int 1, .int (xs 1)], mm_w0)) 2 3000 rfl ?_
        refine mm_xif2 rfl false (mm_lt0 (a := (xs 1).toInt) (b := 1) rfl rfl (by omega)) rfl ?_
        refine mm_xk (S' := (8, [some (.int (xs 1))], [.int 64, .int (xs 1)], mm_w0)) 2 3000 rfl ?_
        refine mm_xif2 rfl false (mm_gt0 (a := (xs 1).toInt) (b := 64) rfl rfl (by omega)) rfl ?_
        refine mm_xk (S' := (16, [some (.int (xs 1))], [.int 1], mm_w0)) 2 3000 rfl ?_
        exact mm_xfin rfl
      refine mm_xk (S' := (8, [some (.ref 0), some (.int (xs 1)), some (.int (xs 2)), some (.int (xs 3)), some (.int (xs 4))], [.int (xs 2)], mm_w0)) 2 3000 rfl ?_
      refine mm_xcall (v := (some (.int 0))) (w1 := mm_w0) rfl ?_ ?_
      · skip
        refine mm_xk (S' := (2, [some (.int (xs 2))], [.int 1, .int (xs 2)], mm_w0)) 2 3000 rfl ?_
        refine mm_xif2 rfl false (mm_lt0 (a := (xs 2).toInt) (b := 1) rfl rfl (by omega)) rfl ?_
        refine mm_xk (S' := (8, [some (.int (xs 2))], [.int 64, .int (xs 2)], mm_w0)) 2 3000 rfl ?_
        refine mm_xif2 rfl true (mm_gt1 (a := (xs 2).toInt) (b := 64) rfl rfl (by omega)) rfl ?_
        refine mm_xk (S' := (16, [some (.int (xs 2))], [.int 0], mm_w0)) 1 3000 rfl ?_
        exact mm_xfin rfl
      refine mm_xk (S' := (29, [some (.ref 0), some (.int (xs 1)), some (.int (xs 2)), some (.int (xs 3)), some (.int (xs 4))], [], mm_w0)) 1 3000 rfl ?_
      exact mm_xfin rfl
    refine mm_xk (S' := (15, [some (.ref 0), some (.int (xs 1)), some (.int (xs 2)), some (.int (xs 3)), some (.int (xs 4)), some (.ref 48)], [.int 1], (mm_w0 ++ [.inr (11, [])]))) 2 3000 rfl ?_
    exact mm_xfin rfl
  refine mm_xk (S' := (175, [some (.ref 1000004), some (.ref 0), some (.ref 30), some (.ref 47), some (.int 0), some (.int 1), none], [.int (xs 4), .int (xs 3), .int (xs 2), .int (xs 1), .ref 30], (mm_w0 ++ [.inr (11, [])]))) 22 3000 rfl ?_
  refine mm_xcall (v := none) (w1 := ((mm_w0.set 30 (.inr (10, [.int 1, .int 8, .int 8, .int 1, .int 8, .ref 31, .ref 32, .int 0, .int 0, .int 0, .int 0, .int 0, .ref 33, .ref 34, .int 0, .ref 35, .int 0, .int 0, .int 0, .int 0, .int 0, .int 0, .int 0, .int 0, .int 0, .int 0, .int 0, .ref 36, .ref 37, .ref 38, .ref 39, .ref 40, .ref 41, .ref 42, .ref 43, .int 0, .int 0, .int 0, .int 0, .int 0, .ref 44, .int 0, .int 0, .int 0, .int 0, .int 0, .int 0, .int 0, .int 0, .int 0, .int 0, .int (-1), .int 0, .int 0, .int 0, .ref 45, .ref 46, .int 0, .int 0, .int 0, .int 0, .int 0, .int 0]))) ++ [.inr (11, [])])) rfl ?_ ?_
  · skip
    refine mm_xk (S' := (5, [some (.ref 30), some (.int (xs 1)), some (.int (xs 2)), some (.int (xs 3)), some (.int (xs 4)), none], [.int 64, .int 1, .int (xs 1), .ref 30], (mm_w0 ++ [.inr (11, [])]))) 4 3000 rfl ?_
    refine mm_xcall (v := (some (.int 1))) (w1 := (mm_w0 ++ [.inr (11, [])])) rfl ?_ ?_
    · skip
      refine mm_xk (S' := (2, [some (.int (xs 1)), some (.int 1), some (.int 64)], [.int 1, .int (xs 1)], (mm_w0 ++ [.inr (11, [])]))) 2 3000 rfl ?_
      refine mm_xif2 rfl false (mm_lt0 (a := (xs 1).toInt) (b := 1) rfl rfl (by omega)) rfl ?_
      refine mm_xk (S' := (7, [some (.int (xs 1)), some (.int 1), some (.int 64)], [.int 64, .int (xs 1)], (mm_w0 ++ [.inr (11, [])]))) 2 3000 rfl ?_
      refine mm_xif2 rfl false (mm_gt0 (a := (xs 1).toInt) (b := 64) rfl rfl (by omega)) rfl ?_
      refine mm_xk (S' := (15, [some (.int (xs 1)), some (.int 1), some (.int 64)], [.int 1], (mm_w0 ++ [.inr (11, [])]))) 2 3000 rfl ?_
      exact mm_xfin rfl
    refine mm_xk (S' := (15, [some (.ref 30), some (.int (xs 1)), some (.int (xs 2)), some (.int (xs 3)), some (.int (xs 4)), none], [.int 64, .int 1, .int (xs 2), .ref 30], (mm_w0 ++ [.inr (11, [])]))) 4 3000 rfl ?_
    refine mm_xcall (v := (some (.int 0))) (w1 := (mm_w0 ++ [.inr (11, [])])) rfl ?_ ?_
    · skip
      refine mm_xk (S' := (2, [some (.int (xs 2)), some (.int 1), some (.int 64)], [.int 1, .int (xs 2)], (mm_w0 ++ [.inr (11, [])]))) 2 3000 rfl ?_
      refine mm_xif2 rfl false (mm_lt0 (a := (xs 2).toInt) (b := 1) rfl rfl (by omega)) rfl ?_
      refine mm_xk (S' := (7, [some (.int (xs 2)), some (.int 1), some (.int 64)], [.int 64, .int (xs 2)], (mm_w0 ++ [.inr (11, [])]))) 2 3000 rfl ?_
      refine mm_xif2 rfl true (mm_gt1 (a := (xs 2).toInt) (b := 64) rfl rfl (by omega)) rfl ?_
      refine mm_xk (S' := (15, [some (.int (xs 2)), some (.int 1), some (.int 64)], [.int 0], (mm_w0 ++ [.inr (11, [])]))) 1 3000 rfl ?_
      exact mm_xfin rfl
    refine mm_xk (S' := (57, [some (.ref 30), some (.int (xs 1)), some (.int (xs 2)), some (.int (xs 3)), some (.int (xs 4)), none], [], ((mm_w0.set 30 (.inr (10, [.int 1, .int 8, .int 8, .int 1, .int 8, .ref 31, .ref 32, .int 0, .int 0, .int 0, .int 0, .int 0, .ref 33, .ref 34, .int 0, .ref 35, .int 0, .int 0, .int 0, .int 0, .int 0, .int 0, .int 0, .int 0, .int 0, .int 0, .int 0, .ref 36, .ref 37, .ref 38, .ref 39, .ref 40, .ref 41, .ref 42, .ref 43, .int 0, .int 0, .int 0, .int 0, .int 0, .ref 44, .int 0, .int 0, .int 0, .int 0, .int 0, .int 0, .int 0, .int 0, .int 0, .int 0, .int (-1), .int 0, .int 0, .int 0, .ref 45, .ref 46, .int 0, .int 0, .int 0, .int 0, .int 0, .int 0]))) ++ [.inr (11, [])]))) 6 3000 rfl ?_
    exact mm_xfin rfl
  refine mm_xk (S' := (1096, [some (.ref 1000004), some (.ref 0), some (.ref 30), some (.ref 47), some (.int 9), some (.int 1), none], [.int 1], ((mm_w0.set 30 (.inr (10, [.int 1, .int 8, .int 8, .int 1, .int 8, .ref 31, .ref 32, .int 0, .int 0, .int 0, .int 0, .int 0, .ref 33, .ref 34, .int 0, .ref 35, .int 0, .int 0, .int 0, .int 0, .int 0, .int 0, .int 0, .int 0, .int 0, .int 0, .int 0, .ref 36, .ref 37, .ref 38, .ref 39, .ref 40, .ref 41, .ref 42, .ref 43, .int 0, .int 0, .int 0, .int 0, .int 0, .ref 44, .int 0, .int 0, .int 0, .int 0, .int 0, .int 0, .int 0, .int 0, .int 0, .int 0, .int (-1), .int 0, .int 0, .int 0, .ref 45, .ref 46, .int 0, .int 0, .int 0, .int 0, .int 0, .int 0]))) ++ [.inr (11, [])]))) 14 3000 rfl ?_
  exact mm_xfin rfl
set_option maxRecDepth 100000 in
set_option maxHeartbeats 4000000 in
theorem mm_lf0_6 (xs : Nat → Int32) (l1 : 1 ≤ (xs 1).toInt) (u1 : (xs 1).toInt ≤ 64) (l2 : 1 ≤ (xs 2).toInt) (u2 : (xs 2).toInt ≤ 64) (l3 : 3 ≤ (xs 3).toInt) (u3 : (xs 3).toInt ≤ 3) (u4 : (xs 4).toInt ≤ 1) : mm_Ok xs 120 := by
  refine mm_Ok_of (w' := ((mm_w0.set 30 (.inr (10, [.int 1, .int 8, .int 8, .int 1, .int 8, .ref 31, .ref 32, .int 0, .int 0, .int 0, .int 0, .int 0, .ref 33, .ref 34, .int 0, .ref 35, .int 0, .int 0, .int 0, .int 0, .int 0, .int 0, .int 0, .int 0, .int 0, .int 0, .int 0, .ref 36, .ref 37, .ref 38, .ref 39, .ref 40, .ref 41, .ref 42, .ref 43, .int 0, .int 0, .int 0, .int 0, .int 0, .ref 44, .int 0, .int 0, .int 0, .int 0, .int 0, .int 0, .int 0, .int 0, .int 0, .int 0, .int (-1), .int 0, .int 0, .int 0, .ref 45, .ref 46, .int 0, .int 0, .int 0, .int 0, .int 0, .int 0]))) ++ [.inr (11, [])])) (mm_szP 6 (mm_szS 63 mm_sz0 rfl) rfl) rfl rfl ?_
  refine mm_xk (S' := (145, [some (.ref 1000004), some (.ref 0), some (.ref 30), some (.ref 47), some (.int 0), none, none], [.int (xs 4), .int (xs 3), .int (xs 2), .int (xs 1), .ref 0], mm_w0)) 21 3000 rfl ?_
  refine mm_xcall (v := (some (.int 1))) (w1 := (mm_w0 ++ [.inr (11, [])])) rfl ?_ ?_
  · skip
    refine mm_xk (S' := (6, [some (.ref 0), some (.int (xs 1)), some (.int (xs 2)), some (.int (xs 3)), some (.int (xs 4)), none], [.int (xs 4), .int (xs 3), .int (xs 2), .int (xs 1), .ref 0], mm_w0)) 5 3000 rfl ?_
    refine mm_xcaught (x := 11) (hp := 12) (w1 := (mm_w0 ++ [.inr (11, [])])) rfl ?_ rfl ?_
    · skip
      refine mm_xk (S' := (1, [some (.ref 0), some (.int (xs 1)), some (.int (xs 2)), some (.int (xs 3)), some (.int (xs 4))], [.int (xs 1)], mm_w0)) 1 3000 rfl ?_
      refine mm_xcall (v := (some (.int 1))) (w1 := mm_w0) rfl ?_ ?_
      · skip
        refine mm_xk (S' := (2, [some (.int (xs 1))], [.int 1, .int (xs 1)], mm_w0)) 2 3000 rfl ?_
        refine mm_xif2 rfl false (mm_lt0 (a := (xs 1).toInt) (b := 1) rfl rfl (by omega)) rfl ?_
        refine mm_xk (S' := (8, [some (.int (xs 1))], [.int 64, .int (xs 1)], mm_w0)) 2 3000 rfl ?_
        refine mm_xif2 rfl false (mm_gt0 (a := (xs 1).toInt) (b := 64) rfl rfl (by omega)) rfl ?_
        refine mm_xk (S' := (16, [some (.int (xs 1))], [.int 1], mm_w0)) 2 3000 rfl ?_
        exact mm_xfin rfl
      refine mm_xk (S' := (8, [some (.ref 0), some (.int (xs 1)), some (.int (xs 2)), some (.int (xs 3)), some (.int (xs 4))], [.int (xs 2)], mm_w0)) 2 3000 rfl ?_
      refine mm_xcall (v := (some (.int 1))) (w1 := mm_w0) rfl ?_ ?_
      · skip
        refine mm_xk (S' := (2, [some (.int (xs 2))], [.int 1, .int (xs 2)], mm_w0)) 2 3000 rfl ?_
        refine mm_xif2 rfl false (mm_lt0 (a := (xs 2).toInt) (b := 1) rfl rfl (by omega)) rfl ?_
        refine mm_xk (S' := (8, [some (.int (xs 2))], [.int 64, .int (xs 2)], mm_w0)) 2 3000 rfl ?_
        refine mm_xif2 rfl false (mm_gt0 (a := (xs 2).toInt) (b := 64) rfl rfl (by omega)) rfl ?_
        refine mm_xk (S' := (16, [some (.int (xs 2))], [.int 1], mm_w0)) 2 3000 rfl ?_
        exact mm_xfin rfl
      refine mm_xk (S' := (15, [some (.ref 0), some (.int (xs 1)), some (.int (xs 2)), some (.int (xs 3)), some (.int (xs 4))], [.int (xs 3)], mm_w0)) 2 3000 rfl ?_
      refine mm_xcall (v := (some (.int 1))) (w1 := mm_w0) rfl ?_ ?_
      · skip
        refine mm_xk (S' := (2, [some (.int (xs 3))], [.int 1, .int (xs 3)], mm_w0)) 2 3000 rfl ?_
        refine mm_xif2 rfl false (mm_eq0 (a := (xs 3).toInt) (b := 1) rfl rfl (by omega)) rfl ?_
        refine mm_xk (S' := (7, [some (.int (xs 3))], [.int 3, .int (xs 3)], mm_w0)) 2 3000 rfl ?_
        refine mm_xif2 rfl false (mm_ne0 (a := (xs 3).toInt) (b := 3) rfl rfl (by omega)) rfl ?_
        refine mm_xk (S' := (15, [some (.int (xs 3))], [.int 1], mm_w0)) 2 3000 rfl ?_
        exact mm_xfin rfl
      refine mm_xk (S' := (23, [some (.ref 0), some (.int (xs 1)), some (.int (xs 2)), some (.int (xs 3)), some (.int (xs 4))], [.int (xs 4)], mm_w0)) 2 3000 rfl ?_
      refine mm_xcall (v := (some (.int 0))) (w1 := mm_w0) rfl ?_ ?_
      · skip
        refine mm_xk (S' := (2, [some (.int (xs 4))], [.int 2, .int (xs 4)], mm_w0)) 2 3000 rfl ?_
        refine mm_xif2 rfl true (mm_lt1 (a := (xs 4).toInt) (b := 2) rfl rfl (by omega)) rfl ?_
        refine mm_xk (S' := (16, [some (.int (xs 4))], [.int 0], mm_w0)) 1 3000 rfl ?_
        exact mm_xfin rfl
      refine mm_xk (S' := (29, [some (.ref 0), some (.int (xs 1)), some (.int (xs 2)), some (.int (xs 3)), some (.int (xs 4))], [], mm_w0)) 1 3000 rfl ?_
      exact mm_xfin rfl
    refine mm_xk (S' := (15, [some (.ref 0), some (.int (xs 1)), some (.int (xs 2)), some (.int (xs 3)), some (.int (xs 4)), some (.ref 48)], [.int 1], (mm_w0 ++ [.inr (11, [])]))) 2 3000 rfl ?_
    exact mm_xfin rfl
  refine mm_xk (S' := (175, [some (.ref 1000004), some (.ref 0), some (.ref 30), some (.ref 47), some (.int 0), some (.int 1), none], [.int (xs 4), .int (xs 3), .int (xs 2), .int (xs 1), .ref 30], (mm_w0 ++ [.inr (11, [])]))) 22 3000 rfl ?_
  refine mm_xcall (v := none) (w1 := ((mm_w0.set 30 (.inr (10, [.int 1, .int 8, .int 8, .int 1, .int 8, .ref 31, .ref 32, .int 0, .int 0, .int 0, .int 0, .int 0, .ref 33, .ref 34, .int 0, .ref 35, .int 0, .int 0, .int 0, .int 0, .int 0, .int 0, .int 0, .int 0, .int 0, .int 0, .int 0, .ref 36, .ref 37, .ref 38, .ref 39, .ref 40, .ref 41, .ref 42, .ref 43, .int 0, .int 0, .int 0, .int 0, .int 0, .ref 44, .int 0, .int 0, .int 0, .int 0, .int 0, .int 0, .int 0, .int 0, .int 0, .int 0, .int (-1), .int 0, .int 0, .int 0, .ref 45, .ref 46, .int 0, .int 0, .int 0, .int 0, .int 0, .int 0]))) ++ [.inr (11, [])])) rfl ?_ ?_
  · skip
    refine mm_xk (S' := (5, [some (.ref 30), some (.int (xs 1)), some (.int (xs 2)), some (.int (xs 3)), some (.int (xs 4)), none], [.int 64, .int 1, .int (xs 1), .ref 30], (mm_w0 ++ [.inr (11, [])]))) 4 3000 rfl ?_
    refine mm_xcall (v := (some (.int 1))) (w1 := (mm_w0 ++ [.inr (11, [])])) rfl ?_ ?_
    · skip
      refine mm_xk (S' := (2, [some (.int (xs 1)), some (.int 1), some (.int 64)], [.int 1, .int (xs 1)], (mm_w0 ++ [.inr (11, [])]))) 2 3000 rfl ?_
      refine mm_xif2 rfl false (mm_lt0 (a := (xs 1).toInt) (b := 1) rfl rfl (by omega)) rfl ?_
      refine mm_xk (S' := (7, [some (.int (xs 1)), some (.int 1), some (.int 64)], [.int 64, .int (xs 1)], (mm_w0 ++ [.inr (11, [])]))) 2 3000 rfl ?_
      refine mm_xif2 rfl false (mm_gt0 (a := (xs 1).toInt) (b := 64) rfl rfl (by omega)) rfl ?_
      refine mm_xk (S' := (15, [some (.int (xs 1)), some (.int 1), some (.int 64)], [.int 1], (mm_w0 ++ [.inr (11, [])]))) 2 3000 rfl ?_
      exact mm_xfin rfl
    refine mm_xk (S' := (15, [some (.ref 30), some (.int (xs 1)), some (.int (xs 2)), some (.int (xs 3)), some (.int (xs 4)), none], [.int 64, .int 1, .int (xs 2), .ref 30], (mm_w0 ++ [.inr (11, [])]))) 4 3000 rfl ?_
    refine mm_xcall (v := (some (.int 1))) (w1 := (mm_w0 ++ [.inr (11, [])])) rfl ?_ ?_
    · skip
      refine mm_xk (S' := (2, [some (.int (xs 2)), some (.int 1), some (.int 64)], [.int 1, .int (xs 2)], (mm_w0 ++ [.inr (11, [])]))) 2 3000 rfl ?_
      refine mm_xif2 rfl false (mm_lt0 (a := (xs 2).toInt) (b := 1) rfl rfl (by omega)) rfl ?_
      refine mm_xk (S' := (7, [some (.int (xs 2)), some (.int 1), some (.int 64)], [.int 64, .int (xs 2)], (mm_w0 ++ [.inr (11, [])]))) 2 3000 rfl ?_
      refine mm_xif2 rfl false (mm_gt0 (a := (xs 2).toInt) (b := 64) rfl rfl (by omega)) rfl ?_
      refine mm_xk (S' := (15, [some (.int (xs 2)), some (.int 1), some (.int 64)], [.int 1], (mm_w0 ++ [.inr (11, [])]))) 2 3000 rfl ?_
      exact mm_xfin rfl
    refine mm_xk (S' := (23, [some (.ref 30), some (.int (xs 1)), some (.int (xs 2)), some (.int (xs 3)), some (.int (xs 4)), none], [.int 1, .int (xs 3), .ref 30], (mm_w0 ++ [.inr (11, [])]))) 3 3000 rfl ?_
    refine mm_xif2 rfl false (mm_eq0 (a := (xs 3).toInt) (b := 1) rfl rfl (by omega)) rfl ?_
    refine mm_xk (S' := (28, [some (.ref 30), some (.int (xs 1)), some (.int (xs 2)), some (.int (xs 3)), some (.int (xs 4)), none], [.int 3, .int (xs 3), .ref 30], (mm_w0 ++ [.inr (11, [])]))) 2 3000 rfl ?_
    refine mm_xif2 rfl false (mm_ne0 (a := (xs 3).toInt) (b := 3) rfl rfl (by omega)) rfl ?_
    refine mm_xk (S' := (36, [some (.ref 30), some (.int (xs 1)), some (.int (xs 2)), some (.int (xs 3)), some (.int (xs 4)), none], [.int 16, .int 2, .int (xs 4), .ref 30], (mm_w0 ++ [.inr (11, [])]))) 3 3000 rfl ?_
    refine mm_xcall (v := (some (.int 0))) (w1 := (mm_w0 ++ [.inr (11, [])])) rfl ?_ ?_
    · skip
      refine mm_xk (S' := (2, [some (.int (xs 4)), some (.int 2), some (.int 16)], [.int 2, .int (xs 4)], (mm_w0 ++ [.inr (11, [])]))) 2 3000 rfl ?_
      refine mm_xif2 rfl true (mm_lt1 (a := (xs 4).toInt) (b := 2) rfl rfl (by omega)) rfl ?_
      refine mm_xk (S' := (15, [some (.int (xs 4)), some (.int 2), some (.int 16)], [.int 0], (mm_w0 ++ [.inr (11, [])]))) 1 3000 rfl ?_
      exact mm_xfin rfl
    refine mm_xk (S' := (57, [some (.ref 30), some (.int (xs 1)), some (.int (xs 2)), some (.int (xs 3)), some (.int (xs 4)), none], [], ((mm_w0.set 30 (.inr (10, [.int 1, .int 8, .int 8, .int 1, .int 8, .ref 31, .ref 32, .int 0, .int 0, .int 0, .int 0, .int 0, .ref 33, .ref 34, .int 0, .ref 35, .int 0, .int 0, .int 0, .int 0, .int 0, .int 0, .int 0, .int 0, .int 0, .int 0, .int 0, .ref 36, .ref 37, .ref 38, .ref 39, .ref 40, .ref 41, .ref 42, .ref 43, .int 0, .int 0, .int 0, .int 0, .int 0, .ref 44, .int 0, .int 0, .int 0, .int 0, .int 0, .int 0, .int 0, .int 0, .int 0, .int 0, .int (-1), .int 0, .int 0, .int 0, .ref 45, .ref 46, .int 0, .int 0, .int 0, .int 0, .int 0, .int 0]))) ++ [.inr (11, [])]))) 6 3000 rfl ?_
    exact mm_xfin rfl
  refine mm_xk (S' := (1096, [some (.ref 1000004), some (.ref 0), some (.ref 30), some (.ref 47), some (.int 9), some (.int 1), none], [.int 1], ((mm_w0.set 30 (.inr (10, [.int 1, .int 8, .int 8, .int 1, .int 8, .ref 31, .ref 32, .int 0, .int 0, .int 0, .int 0, .int 0, .ref 33, .ref 34, .int 0, .ref 35, .int 0, .int 0, .int 0, .int 0, .int 0, .int 0, .int 0, .int 0, .int 0, .int 0, .int 0, .ref 36, .ref 37, .ref 38, .ref 39, .ref 40, .ref 41, .ref 42, .ref 43, .int 0, .int 0, .int 0, .int 0, .int 0, .ref 44, .int 0, .int 0, .int 0, .int 0, .int 0, .int 0, .int 0, .int 0, .int 0, .int 0, .int (-1), .int 0, .int 0, .int 0, .ref 45, .ref 46, .int 0, .int 0, .int 0, .int 0, .int 0, .int 0]))) ++ [.inr (11, [])]))) 14 3000 rfl ?_
  exact mm_xfin rfl
set_option maxRecDepth 100000 in
set_option maxHeartbeats 4000000 in
theorem mm_lf0_11 (xs : Nat → Int32) (l1 : 1 ≤ (xs 1).toInt) (u1 : (xs 1).toInt ≤ 64) (l2 : 1 ≤ (xs 2).toInt) (u2 : (xs 2).toInt ≤ 64) (l3 : 1 ≤ (xs 3).toInt) (u3 : (xs 3).toInt ≤ 1) (u4 : (xs 4).toInt ≤ 1) : mm_Ok xs 120 := by
  refine mm_Ok_of (w' := ((mm_w0.set 30 (.inr (10, [.int 1, .int 8, .int 8, .int 1, .int 8, .ref 31, .ref 32, .int 0, .int 0, .int 0, .int 0, .int 0, .ref 33, .ref 34, .int 0, .ref 35, .int 0, .int 0, .int 0, .int 0, .int 0, .int 0, .int 0, .int 0, .int 0, .int 0, .int 0, .ref 36, .ref 37, .ref 38, .ref 39, .ref 40, .ref 41, .ref 42, .ref 43, .int 0, .int 0, .int 0, .int 0, .int 0, .ref 44, .int 0, .int 0, .int 0, .int 0, .int 0, .int 0, .int 0, .int 0, .int 0, .int 0, .int (-1), .int 0, .int 0, .int 0, .ref 45, .ref 46, .int 0, .int 0, .int 0, .int 0, .int 0, .int 0]))) ++ [.inr (11, [])])) (mm_szP 6 (mm_szS 63 mm_sz0 rfl) rfl) rfl rfl ?_
  refine mm_xk (S' := (145, [some (.ref 1000004), some (.ref 0), some (.ref 30), some (.ref 47), some (.int 0), none, none], [.int (xs 4), .int (xs 3), .int (xs 2), .int (xs 1), .ref 0], mm_w0)) 21 3000 rfl ?_
  refine mm_xcall (v := (some (.int 1))) (w1 := (mm_w0 ++ [.inr (11, [])])) rfl ?_ ?_
  · skip
    refine mm_xk (S' := (6, [some (.ref 0), some (.int (xs 1)), some (.int (xs 2)), some (.int (xs 3)), some (.int (xs 4)), none], [.int (xs 4), .int (xs 3), .int (xs 2), .int (xs 1), .ref 0], mm_w0)) 5 3000 rfl ?_
    refine mm_xcaught (x := 11) (hp := 12) (w1 := (mm_w0 ++ [.inr (11, [])])) rfl ?_ rfl ?_
    · skip
      refine mm_xk (S' := (1, [some (.ref 0), some (.int (xs 1)), some (.int (xs 2)), some (.int (xs 3)), some (.int (xs 4))], [.int (xs 1)], mm_w0)) 1 3000 rfl ?_
      refine mm_xcall (v := (some (.int 1))) (w1 := mm_w0) rfl ?_ ?_
      · skip
        refine mm_xk (S' := (2, [some (.int (xs 1))], [.int 1, .int (xs 1)], mm_w0)) 2 3000 rfl ?_
        refine mm_xif2 rfl false (mm_lt0 (a := (xs 1).toInt) (b := 1) rfl rfl (by omega)) rfl ?_
        refine mm_xk (S' := (8, [some (.int (xs 1))], [.int 64, .int (xs 1)], mm_w0)) 2 3000 rfl ?_
        refine mm_xif2 rfl false (mm_gt0 (a := (xs 1).toInt) (b := 64) rfl rfl (by omega)) rfl ?_
        refine mm_xk (S' := (16, [some (.int (xs 1))], [.int 1], mm_w0)) 2 3000 rfl ?_
        exact mm_xfin rfl
      refine mm_xk (S' := (8, [some (.ref 0), some (.int (xs 1)), some (.int (xs 2)), some (.int (xs 3)), some (.int (xs 4))], [.int (xs 2)], mm_w0)) 2 3000 rfl ?_
      refine mm_xcall (v := (some (.int 1))) (w1 := mm_w0) rfl ?_ ?_
      · skip
        refine mm_xk (S' := (2, [some (.int (xs 2))], [.int 1, .int (xs 2)], mm_w0)) 2 3000 rfl ?_
        refine mm_xif2 rfl false (mm_lt0 (a := (xs 2).toInt) (b := 1) rfl rfl (by omega)) rfl ?_
        refine mm_xk (S' := (8, [some (.int (xs 2))], [.int 64, .int (xs 2)], mm_w0)) 2 3000 rfl ?_
        refine mm_xif2 rfl false (mm_gt0 (a := (xs 2).toInt) (b := 64) rfl rfl (by omega)) rfl ?_
        refine mm_xk (S' := (16, [some (.int (xs 2))], [.int 1], mm_w0)) 2 3000 rfl ?_
        exact mm_xfin rfl
      refine mm_xk (S' := (15, [some (.ref 0), some (.int (xs 1)), some (.int (xs 2)), some (.int (xs 3)), some (.int (xs 4))], [.int (xs 3)], mm_w0)) 2 3000 rfl ?_
      refine mm_xcall (v := (some (.int 1))) (w1 := mm_w0) rfl ?_ ?_
      · skip
        refine mm_xk (S' := (2, [some (.int (xs 3))], [.int 1, .int (xs 3)], mm_w0)) 2 3000 rfl ?_
        refine mm_xif2 rfl true (mm_eq1 (a := (xs 3).toInt) (b := 1) rfl rfl (by omega)) rfl ?_
        refine mm_xk (S' := (15, [some (.int (xs 3))], [.int 1], mm_w0)) 2 3000 rfl ?_
        exact mm_xfin rfl
      refine mm_xk (S' := (23, [some (.ref 0), some (.int (xs 1)), some (.int (xs 2)), some (.int (xs 3)), some (.int (xs 4))], [.int (xs 4)], mm_w0)) 2 3000 rfl ?_
      refine mm_xcall (v := (some (.int 0))) (w1 := mm_w0) rfl ?_ ?_
      · skip
        refine mm_xk (S' := (2, [some (.int (xs 4))], [.int 2, .int (xs 4)], mm_w0)) 2 3000 rfl ?_
        refine mm_xif2 rfl true (mm_lt1 (a := (xs 4).toInt) (b := 2) rfl rfl (by omega)) rfl ?_
        refine mm_xk (S' := (16, [some (.int (xs 4))], [.int 0], mm_w0)) 1 3000 rfl ?_
        exact mm_xfin rfl
      refine mm_xk (S' := (29, [some (.ref 0), some (.int (xs 1)), some (.int (xs 2)), some (.int (xs 3)), some (.int (xs 4))], [], mm_w0)) 1 3000 rfl ?_
      exact mm_xfin rfl
    refine mm_xk (S' := (15, [some (.ref 0), some (.int (xs 1)), some (.int (xs 2)), some (.int (xs 3)), some (.int (xs 4)), some (.ref 48)], [.int 1], (mm_w0 ++ [.inr (11, [])]))) 2 3000 rfl ?_
    exact mm_xfin rfl
  refine mm_xk (S' := (175, [some (.ref 1000004), some (.ref 0), some (.ref 30), some (.ref 47), some (.int 0), some (.int 1), none], [.int (xs 4), .int (xs 3), .int (xs 2), .int (xs 1), .ref 30], (mm_w0 ++ [.inr (11, [])]))) 22 3000 rfl ?_
  refine mm_xcall (v := none) (w1 := ((mm_w0.set 30 (.inr (10, [.int 1, .int 8, .int 8, .int 1, .int 8, .ref 31, .ref 32, .int 0, .int 0, .int 0, .int 0, .int 0, .ref 33, .ref 34, .int 0, .ref 35, .int 0, .int 0, .int 0, .int 0, .int 0, .int 0, .int 0, .int 0, .int 0, .int 0, .int 0, .ref 36, .ref 37, .ref 38, .ref 39, .ref 40, .ref 41, .ref 42, .ref 43, .int 0, .int 0, .int 0, .int 0, .int 0, .ref 44, .int 0, .int 0, .int 0, .int 0, .int 0, .int 0, .int 0, .int 0, .int 0, .int 0, .int (-1), .int 0, .int 0, .int 0, .ref 45, .ref 46, .int 0, .int 0, .int 0, .int 0, .int 0, .int 0]))) ++ [.inr (11, [])])) rfl ?_ ?_
  · skip
    refine mm_xk (S' := (5, [some (.ref 30), some (.int (xs 1)), some (.int (xs 2)), some (.int (xs 3)), some (.int (xs 4)), none], [.int 64, .int 1, .int (xs 1), .ref 30], (mm_w0 ++ [.inr (11, [])]))) 4 3000 rfl ?_
    refine mm_xcall (v := (some (.int 1))) (w1 := (mm_w0 ++ [.inr (11, [])])) rfl ?_ ?_
    · skip
      refine mm_xk (S' := (2, [some (.int (xs 1)), some (.int 1), some (.int 64)], [.int 1, .int (xs 1)], (mm_w0 ++ [.inr (11, [])]))) 2 3000 rfl ?_
      refine mm_xif2 rfl false (mm_lt0 (a := (xs 1).toInt) (b := 1) rfl rfl (by omega)) rfl ?_
      refine mm_xk (S' := (7, [some (.int (xs 1)), some (.int 1), some (.int 64)], [.int 64, .int (xs 1)], (mm_w0 ++ [.inr (11, [])]))) 2 3000 rfl ?_
      refine mm_xif2 rfl false (mm_gt0 (a := (xs 1).toInt) (b := 64) rfl rfl (by omega)) rfl ?_
      refine mm_xk (S' := (15, [some (.int (xs 1)), some (.int 1), some (.int 64)], [.int 1], (mm_w0 ++ [.inr (11, [])]))) 2 3000 rfl ?_
      exact mm_xfin rfl
    refine mm_xk (S' := (15, [some (.ref 30), some (.int (xs 1)), some (.int (xs 2)), some (.int (xs 3)), some (.int (xs 4)), none], [.int 64, .int 1, .int (xs 2), .ref 30], (mm_w0 ++ [.inr (11, [])]))) 4 3000 rfl ?_
    refine mm_xcall (v := (some (.int 1))) (w1 := (mm_w0 ++ [.inr (11, [])])) rfl ?_ ?_
    · skip
      refine mm_xk (S' := (2, [some (.int (xs 2)), some (.int 1), some (.int 64)], [.int 1, .int (xs 2)], (mm_w0 ++ [.inr (11, [])]))) 2 3000 rfl ?_
      refine mm_xif2 rfl false (mm_lt0 (a := (xs 2).toInt) (b := 1) rfl rfl (by omega)) rfl ?_
      refine mm_xk (S' := (7, [some (.int (xs 2)), some (.int 1), some (.int 64)], [.int 64, .int (xs 2)], (mm_w0 ++ [.inr (11, [])]))) 2 3000 rfl ?_
      refine mm_xif2 rfl false (mm_gt0 (a := (xs 2).toInt) (b := 64) rfl rfl (by omega)) rfl ?_
      refine mm_xk (S' := (15, [some (.int (xs 2)), some (.int 1), some (.int 64)], [.int 1], (mm_w0 ++ [.inr (11, [])]))) 2 3000 rfl ?_
      exact mm_xfin rfl
    refine mm_xk (S' := (23, [some (.ref 30), some (.int (xs 1)), some (.int (xs 2)), some (.int (xs 3)), some (.int (xs 4)), none], [.int 1, .int (xs 3), .ref 30], (mm_w0 ++ [.inr (11, [])]))) 3 3000 rfl ?_
    refine mm_xif2 rfl true (mm_eq1 (a := (xs 3).toInt) (b := 1) rfl rfl (by omega)) rfl ?_
    refine mm_xk (S' := (36, [some (.ref 30), some (.int (xs 1)), some (.int (xs 2)), some (.int (xs 3)), some (.int (xs 4)), none], [.int 16, .int 2, .int (xs 4), .ref 30], (mm_w0 ++ [.inr (11, [])]))) 3 3000 rfl ?_
    refine mm_xcall (v := (some (.int 0))) (w1 := (mm_w0 ++ [.inr (11, [])])) rfl ?_ ?_
    · skip
      refine mm_xk (S' := (2, [some (.int (xs 4)), some (.int 2), some (.int 16)], [.int 2, .int (xs 4)], (mm_w0 ++ [.inr (11, [])]))) 2 3000 rfl ?_
      refine mm_xif2 rfl true (mm_lt1 (a := (xs 4).toInt) (b := 2) rfl rfl (by omega)) rfl ?_
      refine mm_xk (S' := (15, [some (.int (xs 4)), some (.int 2), some (.int 16)], [.int 0], (mm_w0 ++ [.inr (11, [])]))) 1 3000 rfl ?_
      exact mm_xfin rfl
    refine mm_xk (S' := (57, [some (.ref 30), some (.int (xs 1)), some (.int (xs 2)), some (.int (xs 3)), some (.int (xs 4)), none], [], ((mm_w0.set 30 (.inr (10, [.int 1, .int 8, .int 8, .int 1, .int 8, .ref 31, .ref 32, .int 0, .int 0, .int 0, .int 0, .int 0, .ref 33, .ref 34, .int 0, .ref 35, .int 0, .int 0, .int 0, .int 0, .int 0, .int 0, .int 0, .int 0, .int 0, .int 0, .int 0, .ref 36, .ref 37, .ref 38, .ref 39, .ref 40, .ref 41, .ref 42, .ref 43, .int 0, .int 0, .int 0, .int 0, .int 0, .ref 44, .int 0, .int 0, .int 0, .int 0, .int 0, .int 0, .int 0, .int 0, .int 0, .int 0, .int (-1), .int 0, .int 0, .int 0, .ref 45, .ref 46, .int 0, .int 0, .int 0, .int 0, .int 0, .int 0]))) ++ [.inr (11, [])]))) 6 3000 rfl ?_
    exact mm_xfin rfl
  refine mm_xk (S' := (1096, [some (.ref 1000004), some (.ref 0), some (.ref 30), some (.ref 47), some (.int 9), some (.int 1), none], [.int 1], ((mm_w0.set 30 (.inr (10, [.int 1, .int 8, .int 8, .int 1, .int 8, .ref 31, .ref 32, .int 0, .int 0, .int 0, .int 0, .int 0, .ref 33, .ref 34, .int 0, .ref 35, .int 0, .int 0, .int 0, .int 0, .int 0, .int 0, .int 0, .int 0, .int 0, .int 0, .int 0, .ref 36, .ref 37, .ref 38, .ref 39, .ref 40, .ref 41, .ref 42, .ref 43, .int 0, .int 0, .int 0, .int 0, .int 0, .ref 44, .int 0, .int 0, .int 0, .int 0, .int 0, .int 0, .int 0, .int 0, .int 0, .int 0, .int (-1), .int 0, .int 0, .int 0, .ref 45, .ref 46, .int 0, .int 0, .int 0, .int 0, .int 0, .int 0]))) ++ [.inr (11, [])]))) 14 3000 rfl ?_
  exact mm_xfin rfl
