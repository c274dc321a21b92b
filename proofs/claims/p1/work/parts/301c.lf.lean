set_option maxRecDepth 100000 in
set_option maxHeartbeats 4000000 in
theorem mm_lf1_18 (xs : Nat → Int32) (l1 : 0 ≤ (xs 1).toInt) (u1 : (xs 1).toInt ≤ 0) (l2 : 0 ≤ (xs 2).toInt) (u2 : (xs 2).toInt ≤ 7) (l3 : 0 ≤ (xs 3).toInt) (u3 : (xs 3).toInt ≤ 7) (l4 : 1 ≤ (xs 4).toInt) (u5 : (xs 5).toInt ≤ 0) (hc0 : mm_cmp .gt (xs 4) (8 - xs 2) = true) : mm_Ok xs 192 := by
  refine mm_Ok_of (w' := ((mm_w0.set 30 (.inr (10, (mm_f30.set 0 (.int 1))))) ++ [.inr (13, [])])) (mm_szP 6 (mm_szS 63 mm_sz0 rfl) rfl) rfl rfl ?_
  refine mm_xk (S' := (244, [some (.ref 1000004), some (.ref 0), some (.ref 30), some (.ref 47), some (.int 0), none, none], [.int (xs 8), .int (xs 7), .int (xs 6), .int (xs 5), .int (xs 4), .int (xs 3), .int (xs 2), .int (xs 1), .ref 0], (mm_fw1 (mm_zi 64) (.inr (10, mm_fw1f30 (.int 0))) (mm_zi 12288) []))) 41 3000 rfl ?_
  refine mm_xcl (v := (some (.int 1))) (w1 := (mm_fw1 (mm_zi 64) (.inr (10, mm_fw1f30 (.int 0))) (mm_zi 12288) [.inr (13, [])])) rfl ?_ ?_
  · skip
    refine mm_xk (S' := (14, [some (.ref 0), some (.int (xs 1)), some (.int (xs 2)), some (.int (xs 3)), some (.int (xs 4)), some (.int (xs 5)), some (.int (xs 6)), some (.int (xs 7)), some (.int (xs 8)), none], [.int (xs 8), .int (xs 7), .int (xs 6), .int (xs 5), .int (xs 4), .int (xs 3), .int (xs 2), .int (xs 1), .ref 0], (mm_fw1 (mm_zi 64) (.inr (10, mm_fw1f30 (.int 0))) (mm_zi 12288) []))) 9 3000 rfl ?_
    refine mm_xct (x := 13) (hp := 20) (w1 := (mm_fw1 (mm_zi 64) (.inr (10, mm_fw1f30 (.int 0))) (mm_zi 12288) [.inr (13, [])])) rfl ?_ rfl ?_
    · skip
      refine mm_xk (S' := (7, [some (.ref 0), some (.int (xs 1)), some (.int (xs 2)), some (.int (xs 3)), some (.int (xs 4)), some (.int (xs 5)), some (.int (xs 6)), some (.int (xs 7)), some (.int (xs 8)), none, none, none, none, none, none], [.int (xs 3), .int (xs 2), .int (xs 1), .ref 1], (mm_fw1 (mm_zi 64) (.inr (10, mm_fw1f30 (.int 0))) (mm_zi 12288) []))) 5 3000 rfl ?_
      refine mm_xcl (v := (some (.int 1))) (w1 := (mm_fw1 (mm_zi 64) (.inr (10, mm_fw1f30 (.int 0))) (mm_zi 12288) [])) rfl ?_ ?_
      · skip
        refine mm_xk (S' := (1, [some (.ref 1), some (.int (xs 1)), some (.int (xs 2)), some (.int (xs 3))], [.int (xs 1)], (mm_fw1 (mm_zi 64) (.inr (10, mm_fw1f30 (.int 0))) (mm_zi 12288) []))) 1 3000 rfl ?_
        refine mm_xif1 rfl false (mm_lt0 (a := (xs 1).toInt) (b := 0) rfl rfl (by omega)) rfl ?_
        refine mm_xk (S' := (9, [some (.ref 1), some (.int (xs 1)), some (.int (xs 2)), some (.int (xs 3))], [.int 1, .int (xs 1)], (mm_fw1 (mm_zi 64) (.inr (10, mm_fw1f30 (.int 0))) (mm_zi 12288) []))) 3 3000 rfl ?_
        refine mm_xif2 rfl false (mm_ge0 (a := (xs 1).toInt) (b := 1) rfl rfl (by omega)) rfl ?_
        refine mm_xk (S' := (13, [some (.ref 1), some (.int (xs 1)), some (.int (xs 2)), some (.int (xs 3))], [.int (xs 2)], (mm_fw1 (mm_zi 64) (.inr (10, mm_fw1f30 (.int 0))) (mm_zi 12288) []))) 1 3000 rfl ?_
        refine mm_xif1 rfl false (mm_lt0 (a := (xs 2).toInt) (b := 0) rfl rfl (by omega)) rfl ?_
        refine mm_xk (S' := (21, [some (.ref 1), some (.int (xs 1)), some (.int (xs 2)), some (.int (xs 3))], [.int 8, .int (xs 2)], (mm_fw1 (mm_zi 64) (.inr (10, mm_fw1f30 (.int 0))) (mm_zi 12288) []))) 3 3000 rfl ?_
        refine mm_xif2 rfl false (mm_ge0 (a := (xs 2).toInt) (b := 8) rfl rfl (by omega)) rfl ?_
        refine mm_xk (S' := (25, [some (.ref 1), some (.int (xs 1)), some (.int (xs 2)), some (.int (xs 3))], [.int (xs 3)], (mm_fw1 (mm_zi 64) (.inr (10, mm_fw1f30 (.int 0))) (mm_zi 12288) []))) 1 3000 rfl ?_
        refine mm_xif1 rfl false (mm_lt0 (a := (xs 3).toInt) (b := 0) rfl rfl (by omega)) rfl ?_
        refine mm_xk (S' := (33, [some (.ref 1), some (.int (xs 1)), some (.int (xs 2)), some (.int (xs 3))], [.int 8, .int (xs 3)], (mm_fw1 (mm_zi 64) (.inr (10, mm_fw1f30 (.int 0))) (mm_zi 12288) []))) 3 3000 rfl ?_
        refine mm_xif2 rfl false (mm_ge0 (a := (xs 3).toInt) (b := 8) rfl rfl (by omega)) rfl ?_
        refine mm_xk (S' := (41, [some (.ref 1), some (.int (xs 1)), some (.int (xs 2)), some (.int (xs 3))], [.int 1], (mm_fw1 (mm_zi 64) (.inr (10, mm_fw1f30 (.int 0))) (mm_zi 12288) []))) 2 3000 rfl ?_
        exact mm_xfn rfl
      refine mm_xk (S' := (23, [some (.ref 0), some (.int (xs 1)), some (.int (xs 2)), some (.int (xs 3)), some (.int (xs 4)), some (.int (xs 5)), some (.int (xs 6)), some (.int (xs 7)), some (.int (xs 8)), none, none, none, none, none, none], [.int (xs 5), .int (xs 4), .int (xs 3), .int (xs 2), .ref 1], (mm_fw1 (mm_zi 64) (.inr (10, mm_fw1f30 (.int 0))) (mm_zi 12288) []))) 7 3000 rfl ?_
      refine mm_xcl (v := (some (.int 0))) (w1 := (mm_fw1 (mm_zi 64) (.inr (10, mm_fw1f30 (.int 0))) (mm_zi 12288) [])) rfl ?_ ?_
      · skip
        refine mm_xk (S' := (2, [some (.ref 1), some (.int (xs 2)), some (.int (xs 3)), some (.int (xs 4)), some (.int (xs 5))], [.int 1, .int (xs 4)], (mm_fw1 (mm_zi 64) (.inr (10, mm_fw1f30 (.int 0))) (mm_zi 12288) []))) 2 3000 rfl ?_
        refine mm_xif2 rfl false (mm_lt0 (a := (xs 4).toInt) (b := 1) rfl rfl (by omega)) rfl ?_
        refine mm_xk (S' := (12, [some (.ref 1), some (.int (xs 2)), some (.int (xs 3)), some (.int (xs 4)), some (.int (xs 5))], [.int (8 - xs 2), .int (xs 4)], (mm_fw1 (mm_zi 64) (.inr (10, mm_fw1f30 (.int 0))) (mm_zi 12288) []))) 5 3000 rfl ?_
        refine mm_xif2 rfl true hc0 rfl ?_
        refine mm_xk (S' := (37, [some (.ref 1), some (.int (xs 2)), some (.int (xs 3)), some (.int (xs 4)), some (.int (xs 5))], [.int 0], (mm_fw1 (mm_zi 64) (.inr (10, mm_fw1f30 (.int 0))) (mm_zi 12288) []))) 1 3000 rfl ?_
        exact mm_xfn rfl
      refine mm_xk (S' := (29, [some (.ref 0), some (.int (xs 1)), some (.int (xs 2)), some (.int (xs 3)), some (.int (xs 4)), some (.int (xs 5)), some (.int (xs 6)), some (.int (xs 7)), some (.int (xs 8)), none, none, none, none, none, none], [], (mm_fw1 (mm_zi 64) (.inr (10, mm_fw1f30 (.int 0))) (mm_zi 12288) []))) 1 3000 rfl ?_
      exact mm_xfn rfl
    refine mm_xk (S' := (23, [some (.ref 0), some (.int (xs 1)), some (.int (xs 2)), some (.int (xs 3)), some (.int (xs 4)), some (.int (xs 5)), some (.int (xs 6)), some (.int (xs 7)), some (.int (xs 8)), some (.ref 48)], [.int 1], (mm_fw1 (mm_zi 64) (.inr (10, mm_fw1f30 (.int 0))) (mm_zi 12288) [.inr (13, [])]))) 2 3000 rfl ?_
    exact mm_xfn rfl
  refine mm_xk (S' := (301, [some (.ref 1000004), some (.ref 0), some (.ref 30), some (.ref 47), some (.int 0), some (.int 1), none], [.int (xs 8), .int (xs 7), .int (xs 6), .int (xs 5), .int (xs 4), .int (xs 3), .int (xs 2), .int (xs 1), .ref 30], (mm_fw1 (mm_zi 64) (.inr (10, mm_fw1f30 (.int 0))) (mm_zi 12288) [.inr (13, [])]))) 42 3000 rfl ?_
  refine mm_xcl (v := none) (w1 := (mm_fw1 (mm_zi 64) (.inr (10, mm_fw1f30 (.int 1))) (mm_zi 12288) [.inr (13, [])])) rfl ?_ ?_
  · skip
    refine mm_xk (S' := (1, [some (.ref 30), some (.int (xs 1)), some (.int (xs 2)), some (.int (xs 3)), some (.int (xs 4)), some (.int (xs 5)), some (.int (xs 6)), some (.int (xs 7)), some (.int (xs 8)), none, none, none, none, none], [.int (xs 1)], (mm_fw1 (mm_zi 64) (.inr (10, mm_fw1f30 (.int 0))) (mm_zi 12288) [.inr (13, [])]))) 1 3000 rfl ?_
    refine mm_xif1 rfl false (mm_lt0 (a := (xs 1).toInt) (b := 0) rfl rfl (by omega)) rfl ?_
    refine mm_xk (S' := (9, [some (.ref 30), some (.int (xs 1)), some (.int (xs 2)), some (.int (xs 3)), some (.int (xs 4)), some (.int (xs 5)), some (.int (xs 6)), some (.int (xs 7)), some (.int (xs 8)), none, none, none, none, none], [.int 1, .int (xs 1)], (mm_fw1 (mm_zi 64) (.inr (10, mm_fw1f30 (.int 0))) (mm_zi 12288) [.inr (13, [])]))) 3 3000 rfl ?_
    refine mm_xif2 rfl false (mm_ge0 (a := (xs 1).toInt) (b := 1) rfl rfl (by omega)) rfl ?_
    refine mm_xk (S' := (14, [some (.ref 30), some (.int (xs 1)), some (.int (xs 2)), some (.int (xs 3)), some (.int (xs 4)), some (.int (xs 5)), some (.int (xs 6)), some (.int (xs 7)), some (.int (xs 8)), none, none, none, none, none], [.int (xs 4)], (mm_fw1 (mm_zi 64) (.inr (10, mm_fw1f30 (.int 0))) (mm_zi 12288) [.inr (13, [])]))) 1 3000 rfl ?_
    refine mm_xif1 rfl false (mm_le0 (a := (xs 4).toInt) (b := 0) rfl rfl (by omega)) rfl ?_
    refine mm_xk (S' := (19, [some (.ref 30), some (.int (xs 1)), some (.int (xs 2)), some (.int (xs 3)), some (.int (xs 4)), some (.int (xs 5)), some (.int (xs 6)), some (.int (xs 7)), some (.int (xs 8)), none, none, none, none, none], [.int (xs 5)], (mm_fw1 (mm_zi 64) (.inr (10, mm_fw1f30 (.int 0))) (mm_zi 12288) [.inr (13, [])]))) 1 3000 rfl ?_
    refine mm_xif1 rfl true (mm_le1 (a := (xs 5).toInt) (b := 0) rfl rfl (by omega)) rfl ?_
    refine mm_xk (S' := (130, [some (.ref 30), some (.int (xs 1)), some (.int (xs 2)), some (.int (xs 3)), some (.int (xs 4)), some (.int (xs 5)), some (.int (xs 6)), some (.int (xs 7)), some (.int (xs 8)), some (.int 0), none, none, none, none], [], (mm_fw1 (mm_zi 64) (.inr (10, mm_fw1f30 (.int 1))) (mm_zi 12288) [.inr (13, [])]))) 8 3000 rfl ?_
    refine mm_xk (S' := (137, [some (.ref 30), some (.int (xs 1)), some (.int (xs 2)), some (.int (xs 3)), some (.int (xs 4)), some (.int (xs 5)), some (.int (xs 6)), some (.int (xs 7)), some (.int (xs 8)), some (.int 0), none, none, none, none], [], (mm_fw1 (mm_zi 64) (.inr (10, mm_fw1f30 (.int 1))) (mm_zi 12288) [.inr (13, [])]))) 3 3000 rfl ?_
    exact mm_xfn rfl
  refine mm_xk (S' := (1092, [some (.ref 1000004), some (.ref 0), some (.ref 30), some (.ref 47), some (.int 9), some (.int 1), none], [], (mm_fw1 (mm_zi 64) (.inr (10, mm_fw1f30 (.int 1))) (mm_zi 12288) [.inr (13, [])]))) 6 3000 rfl ?_
  refine mm_xk (S' := (1096, [some (.ref 1000004), some (.ref 0), some (.ref 30), some (.ref 47), some (.int 9), some (.int 1), none], [.int 1], (mm_fw1 (mm_zi 64) (.inr (10, mm_fw1f30 (.int 1))) (mm_zi 12288) [.inr (13, [])]))) 8 3000 rfl ?_
  exact mm_xfn rfl
set_option maxRecDepth 100000 in
set_option maxHeartbeats 4000000 in
theorem mm_lf1_19 (xs : Nat → Int32) (l1 : 0 ≤ (xs 1).toInt) (u1 : (xs 1).toInt ≤ 0) (l2 : 0 ≤ (xs 2).toInt) (u2 : (xs 2).toInt ≤ 7) (l3 : 0 ≤ (xs 3).toInt) (u3 : (xs 3).toInt ≤ 7) (u4 : (xs 4).toInt ≤ 0) : mm_Ok xs 192 := by
  refine mm_Ok_of (w' := ((mm_w0.set 30 (.inr (10, (mm_f30.set 0 (.int 1))))) ++ [.inr (13, [])])) (mm_szP 6 (mm_szS 63 mm_sz0 rfl) rfl) rfl rfl ?_
  refine mm_xk (S' := (244, [some (.ref 1000004), some (.ref 0), some (.ref 30), some (.ref 47), some (.int 0), none, none], [.int (xs 8), .int (xs 7), .int (xs 6), .int (xs 5), .int (xs 4), .int (xs 3), .int (xs 2), .int (xs 1), .ref 0], (mm_fw1 (mm_zi 64) (.inr (10, mm_fw1f30 (.int 0))) (mm_zi 12288) []))) 41 3000 rfl ?_
  refine mm_xcl (v := (some (.int 1))) (w1 := (mm_fw1 (mm_zi 64) (.inr (10, mm_fw1f30 (.int 0))) (mm_zi 12288) [.inr (13, [])])) rfl ?_ ?_
  · skip
    refine mm_xk (S' := (14, [some (.ref 0), some (.int (xs 1)), some (.int (xs 2)), some (.int (xs 3)), some (.int (xs 4)), some (.int (xs 5)), some (.int (xs 6)), some (.int (xs 7)), some (.int (xs 8)), none], [.int (xs 8), .int (xs 7), .int (xs 6), .int (xs 5), .int (xs 4), .int (xs 3), .int (xs 2), .int (xs 1), .ref 0], (mm_fw1 (mm_zi 64) (.inr (10, mm_fw1f30 (.int 0))) (mm_zi 12288) []))) 9 3000 rfl ?_
    refine mm_xct (x := 13) (hp := 20) (w1 := (mm_fw1 (mm_zi 64) (.inr (10, mm_fw1f30 (.int 0))) (mm_zi 12288) [.inr (13, [])])) rfl ?_ rfl ?_
    · skip
      refine mm_xk (S' := (7, [some (.ref 0), some (.int (xs 1)), some (.int (xs 2)), some (.int (xs 3)), some (.int (xs 4)), some (.int (xs 5)), some (.int (xs 6)), some (.int (xs 7)), some (.int (xs 8)), none, none, none, none, none, none], [.int (xs 3), .int (xs 2), .int (xs 1), .ref 1], (mm_fw1 (mm_zi 64) (.inr (10, mm_fw1f30 (.int 0))) (mm_zi 12288) []))) 5 3000 rfl ?_
      refine mm_xcl (v := (some (.int 1))) (w1 := (mm_fw1 (mm_zi 64) (.inr (10, mm_fw1f30 (.int 0))) (mm_zi 12288) [])) rfl ?_ ?_
      · skip
        refine mm_xk (S' := (1, [some (.ref 1), some (.int (xs 1)), some (.int (xs 2)), some (.int (xs 3))], [.int (xs 1)], (mm_fw1 (mm_zi 64) (.inr (10, mm_fw1f30 (.int 0))) (mm_zi 12288) []))) 1 3000 rfl ?_
        refine mm_xif1 rfl false (mm_lt0 (a := (xs 1).toInt) (b := 0) rfl rfl (by omega)) rfl ?_
        refine mm_xk (S' := (9, [some (.ref 1), some (.int (xs 1)), some (.int (xs 2)), some (.int (xs 3))], [.int 1, .int (xs 1)], (mm_fw1 (mm_zi 64) (.inr (10, mm_fw1f30 (.int 0))) (mm_zi 12288) []))) 3 3000 rfl ?_
        refine mm_xif2 rfl false (mm_ge0 (a := (xs 1).toInt) (b := 1) rfl rfl (by omega)) rfl ?_
        refine mm_xk (S' := (13, [some (.ref 1), some (.int (xs 1)), some (.int (xs 2)), some (.int (xs 3))], [.int (xs 2)], (mm_fw1 (mm_zi 64) (.inr (10, mm_fw1f30 (.int 0))) (mm_zi 12288) []))) 1 3000 rfl ?_
        refine mm_xif1 rfl false (mm_lt0 (a := (xs 2).toInt) (b := 0) rfl rfl (by omega)) rfl ?_
        refine mm_xk (S' := (21, [some (.ref 1), some (.int (xs 1)), some (.int (xs 2)), some (.int (xs 3))], [.int 8, .int (xs 2)], (mm_fw1 (mm_zi 64) (.inr (10, mm_fw1f30 (.int 0))) (mm_zi 12288) []))) 3 3000 rfl ?_
        refine mm_xif2 rfl false (mm_ge0 (a := (xs 2).toInt) (b := 8) rfl rfl (by omega)) rfl ?_
        refine mm_xk (S' := (25, [some (.ref 1), some (.int (xs 1)), some (.int (xs 2)), some (.int (xs 3))], [.int (xs 3)], (mm_fw1 (mm_zi 64) (.inr (10, mm_fw1f30 (.int 0))) (mm_zi 12288) []))) 1 3000 rfl ?_
        refine mm_xif1 rfl false (mm_lt0 (a := (xs 3).toInt) (b := 0) rfl rfl (by omega)) rfl ?_
        refine mm_xk (S' := (33, [some (.ref 1), some (.int (xs 1)), some (.int (xs 2)), some (.int (xs 3))], [.int 8, .int (xs 3)], (mm_fw1 (mm_zi 64) (.inr (10, mm_fw1f30 (.int 0))) (mm_zi 12288) []))) 3 3000 rfl ?_
        refine mm_xif2 rfl false (mm_ge0 (a := (xs 3).toInt) (b := 8) rfl rfl (by omega)) rfl ?_
        refine mm_xk (S' := (41, [some (.ref 1), some (.int (xs 1)), some (.int (xs 2)), some (.int (xs 3))], [.int 1], (mm_fw1 (mm_zi 64) (.inr (10, mm_fw1f30 (.int 0))) (mm_zi 12288) []))) 2 3000 rfl ?_
        exact mm_xfn rfl
      refine mm_xk (S' := (23, [some (.ref 0), some (.int (xs 1)), some (.int (xs 2)), some (.int (xs 3)), some (.int (xs 4)), some (.int (xs 5)), some (.int (xs 6)), some (.int (xs 7)), some (.int (xs 8)), none, none, none, none, none, none], [.int (xs 5), .int (xs 4), .int (xs 3), .int (xs 2), .ref 1], (mm_fw1 (mm_zi 64) (.inr (10, mm_fw1f30 (.int 0))) (mm_zi 12288) []))) 7 3000 rfl ?_
      refine mm_xcl (v := (some (.int 0))) (w1 := (mm_fw1 (mm_zi 64) (.inr (10, mm_fw1f30 (.int 0))) (mm_zi 12288) [])) rfl ?_ ?_
      · skip
        refine mm_xk (S' := (2, [some (.ref 1), some (.int (xs 2)), some (.int (xs 3)), some (.int (xs 4)), some (.int (xs 5))], [.int 1, .int (xs 4)], (mm_fw1 (mm_zi 64) (.inr (10, mm_fw1f30 (.int 0))) (mm_zi 12288) []))) 2 3000 rfl ?_
        refine mm_xif2 rfl true (mm_lt1 (a := (xs 4).toInt) (b := 1) rfl rfl (by omega)) rfl ?_
        refine mm_xk (S' := (37, [some (.ref 1), some (.int (xs 2)), some (.int (xs 3)), some (.int (xs 4)), some (.int (xs 5))], [.int 0], (mm_fw1 (mm_zi 64) (.inr (10, mm_fw1f30 (.int 0))) (mm_zi 12288) []))) 1 3000 rfl ?_
        exact mm_xfn rfl
      refine mm_xk (S' := (29, [some (.ref 0), some (.int (xs 1)), some (.int (xs 2)), some (.int (xs 3)), some (.int (xs 4)), some (.int (xs 5)), some (.int (xs 6)), some (.int (xs 7)), some (.int (xs 8)), none, none, none, none, none, none], [], (mm_fw1 (mm_zi 64) (.inr (10, mm_fw1f30 (.int 0))) (mm_zi 12288) []))) 1 3000 rfl ?_
      exact mm_xfn rfl
    refine mm_xk (S' := (23, [some (.ref 0), some (.int (xs 1)), some (.int (xs 2)), some (.int (xs 3)), some (.int (xs 4)), some (.int (xs 5)), some (.int (xs 6)), some (.int (xs 7)), some (.int (xs 8)), some (.ref 48)], [.int 1], (mm_fw1 (mm_zi 64) (.inr (10, mm_fw1f30 (.int 0))) (mm_zi 12288) [.inr (13, [])]))) 2 3000 rfl ?_
    exact mm_xfn rfl
  refine mm_xk (S' := (301, [some (.ref 1000004), some (.ref 0), some (.ref 30), some (.ref 47), some (.int 0), some (.int 1), none], [.int (xs 8), .int (xs 7), .int (xs 6), .int (xs 5), .int (xs 4), .int (xs 3), .int (xs 2), .int (xs 1), .ref 30], (mm_fw1 (mm_zi 64) (.inr (10, mm_fw1f30 (.int 0))) (mm_zi 12288) [.inr (13, [])]))) 42 3000 rfl ?_
  refine mm_xcl (v := none) (w1 := (mm_fw1 (mm_zi 64) (.inr (10, mm_fw1f30 (.int 1))) (mm_zi 12288) [.inr (13, [])])) rfl ?_ ?_
  · skip
    refine mm_xk (S' := (1, [some (.ref 30), some (.int (xs 1)), some (.int (xs 2)), some (.int (xs 3)), some (.int (xs 4)), some (.int (xs 5)), some (.int (xs 6)), some (.int (xs 7)), some (.int (xs 8)), none, none, none, none, none], [.int (xs 1)], (mm_fw1 (mm_zi 64) (.inr (10, mm_fw1f30 (.int 0))) (mm_zi 12288) [.inr (13, [])]))) 1 3000 rfl ?_
    refine mm_xif1 rfl false (mm_lt0 (a := (xs 1).toInt) (b := 0) rfl rfl (by omega)) rfl ?_
    refine mm_xk (S' := (9, [some (.ref 30), some (.int (xs 1)), some (.int (xs 2)), some (.int (xs 3)), some (.int (xs 4)), some (.int (xs 5)), some (.int (xs 6)), some (.int (xs 7)), some (.int (xs 8)), none, none, none, none, none], [.int 1, .int (xs 1)], (mm_fw1 (mm_zi 64) (.inr (10, mm_fw1f30 (.int 0))) (mm_zi 12288) [.inr (13, [])]))) 3 3000 rfl ?_
    refine mm_xif2 rfl false (mm_ge0 (a := (xs 1).toInt) (b := 1) rfl rfl (by omega)) rfl ?_
    refine mm_xk (S' := (14, [some (.ref 30), some (.int (xs 1)), some (.int (xs 2)), some (.int (xs 3)), some (.int (xs 4)), some (.int (xs 5)), some (.int (xs 6)), some (.int (xs 7)), some (.int (xs 8)), none, none, none, none, none], [.int (xs 4)], (mm_fw1 (mm_zi 64) (.inr (10, mm_fw1f30 (.int 0))) (mm_zi 12288) [.inr (13, [])]))) 1 3000 rfl ?_
    refine mm_xif1 rfl true (mm_le1 (a := (xs 4).toInt) (b := 0) rfl rfl (by omega)) rfl ?_
    refine mm_xk (S' := (130, [some (.ref 30), some (.int (xs 1)), some (.int (xs 2)), some (.int (xs 3)), some (.int (xs 4)), some (.int (xs 5)), some (.int (xs 6)), some (.int (xs 7)), some (.int (xs 8)), some (.int 0), none, none, none, none], [], (mm_fw1 (mm_zi 64) (.inr (10, mm_fw1f30 (.int 1))) (mm_zi 12288) [.inr (13, [])]))) 8 3000 rfl ?_
    refine mm_xk (S' := (137, [some (.ref 30), some (.int (xs 1)), some (.int (xs 2)), some (.int (xs 3)), some (.int (xs 4)), some (.int (xs 5)), some (.int (xs 6)), some (.int (xs 7)), some (.int (xs 8)), some (.int 0), none, none, none, none], [], (mm_fw1 (mm_zi 64) (.inr (10, mm_fw1f30 (.int 1))) (mm_zi 12288) [.inr (13, [])]))) 3 3000 rfl ?_
    exact mm_xfn rfl
  refine mm_xk (S' := (1092, [some (.ref 1000004), some (.ref 0), some (.ref 30), some (.ref 47), some (.int 9), some (.int 1), none], [], (mm_fw1 (mm_zi 64) (.inr (10, mm_fw1f30 (.int 1))) (mm_zi 12288) [.inr (13, [])]))) 6 3000 rfl ?_
  refine mm_xk (S' := (1096, [some (.ref 1000004), some (.ref 0), some (.ref 30), some (.ref 47), some (.int 9), some (.int 1), none], [.int 1], (mm_fw1 (mm_zi 64) (.inr (10, mm_fw1f30 (.int 1))) (mm_zi 12288) [.inr (13, [])]))) 8 3000 rfl ?_
  exact mm_xfn rfl
set_option maxRecDepth 100000 in
set_option maxHeartbeats 4000000 in
theorem mm_lf1_20 (xs : Nat → Int32) (l1 : 0 ≤ (xs 1).toInt) (u1 : (xs 1).toInt ≤ 0) (l2 : 0 ≤ (xs 2).toInt) (u2 : (xs 2).toInt ≤ 7) (u3 : (xs 3).toInt ≤ -1) (l4 : 1 ≤ (xs 4).toInt) (l5 : 1 ≤ (xs 5).toInt) : mm_Ok xs 192 := by
  refine mm_Ok_of (w' := ((mm_w0.set 30 (.inr (10, (mm_f30.set 0 (.int 1))))) ++ [.inr (13, [])])) (mm_szP 6 (mm_szS 63 mm_sz0 rfl) rfl) rfl rfl ?_
  refine mm_xk (S' := (244, [some (.ref 1000004), some (.ref 0), some (.ref 30), some (.ref 47), some (.int 0), none, none], [.int (xs 8), .int (xs 7), .int (xs 6), .int (xs 5), .int (xs 4), .int (xs 3), .int (xs 2), .int (xs 1), .ref 0], (mm_fw1 (mm_zi 64) (.inr (10, mm_fw1f30 (.int 0))) (mm_zi 12288) []))) 41 3000 rfl ?_
  refine mm_xcl (v := (some (.int 1))) (w1 := (mm_fw1 (mm_zi 64) (.inr (10, mm_fw1f30 (.int 0))) (mm_zi 12288) [.inr (13, [])])) rfl ?_ ?_
  · skip
    refine mm_xk (S' := (14, [some (.ref 0), some (.int (xs 1)), some (.int (xs 2)), some (.int (xs 3)), some (.int (xs 4)), some (.int (xs 5)), some (.int (xs 6)), some (.int (xs 7)), some (.int (xs 8)), none], [.int (xs 8), .int (xs 7), .int (xs 6), .int (xs 5), .int (xs 4), .int (xs 3), .int (xs 2), .int (xs 1), .ref 0], (mm_fw1 (mm_zi 64) (.inr (10, mm_fw1f30 (.int 0))) (mm_zi 12288) []))) 9 3000 rfl ?_
    refine mm_xct (x := 13) (hp := 20) (w1 := (mm_fw1 (mm_zi 64) (.inr (10, mm_fw1f30 (.int 0))) (mm_zi 12288) [.inr (13, [])])) rfl ?_ rfl ?_
    · skip
      refine mm_xk (S' := (7, [some (.ref 0), some (.int (xs 1)), some (.int (xs 2)), some (.int (xs 3)), some (.int (xs 4)), some (.int (xs 5)), some (.int (xs 6)), some (.int (xs 7)), some (.int (xs 8)), none, none, none, none, none, none], [.int (xs 3), .int (xs 2), .int (xs 1), .ref 1], (mm_fw1 (mm_zi 64) (.inr (10, mm_fw1f30 (.int 0))) (mm_zi 12288) []))) 5 3000 rfl ?_
      refine mm_xcl (v := (some (.int 0))) (w1 := (mm_fw1 (mm_zi 64) (.inr (10, mm_fw1f30 (.int 0))) (mm_zi 12288) [])) rfl ?_ ?_
      · skip
        refine mm_xk (S' := (1, [some (.ref 1), some (.int (xs 1)), some (.int (xs 2)), some (.int (xs 3))], [.int (xs 1)], (mm_fw1 (mm_zi 64) (.inr (10, mm_fw1f30 (.int 0))) (mm_zi 12288) []))) 1 3000 rfl ?_
        refine mm_xif1 rfl false (mm_lt0 (a := (xs 1).toInt) (b := 0) rfl rfl (by omega)) rfl ?_
        refine mm_xk (S' := (9, [some (.ref 1), some (.int (xs 1)), some (.int (xs 2)), some (.int (xs 3))], [.int 1, .int (xs 1)], (mm_fw1 (mm_zi 64) (.inr (10, mm_fw1f30 (.int 0))) (mm_zi 12288) []))) 3 3000 rfl ?_
        refine mm_xif2 rfl false (mm_ge0 (a := (xs 1).toInt) (b := 1) rfl rfl (by omega)) rfl ?_
        refine mm_xk (S' := (13, [some (.ref 1), some (.int (xs 1)), some (.int (xs 2)), some (.int (xs 3))], [.int (xs 2)], (mm_fw1 (mm_zi 64) (.inr (10, mm_fw1f30 (.int 0))) (mm_zi 12288) []))) 1 3000 rfl ?_
        refine mm_xif1 rfl false (mm_lt0 (a := (xs 2).toInt) (b := 0) rfl rfl (by omega)) rfl ?_
        refine mm_xk (S' := (21, [some (.ref 1), some (.int (xs 1)), some (.int (xs 2)), some (.int (xs 3))], [.int 8, .int (xs 2)], (mm_fw1 (mm_zi 64) (.inr (10, mm_fw1f30 (.int 0))) (mm_zi 12288) []))) 3 3000 rfl ?_
        refine mm_xif2 rfl false (mm_ge0 (a := (xs 2).toInt) (b := 8) rfl rfl (by omega)) rfl ?_
        refine mm_xk (S' := (25, [some (.ref 1), some (.int (xs 1)), some (.int (xs 2)), some (.int (xs 3))], [.int (xs 3)], (mm_fw1 (mm_zi 64) (.inr (10, mm_fw1f30 (.int 0))) (mm_zi 12288) []))) 1 3000 rfl ?_
        refine mm_xif1 rfl true (mm_lt1 (a := (xs 3).toInt) (b := 0) rfl rfl (by omega)) rfl ?_
        refine mm_xk (S' := (41, [some (.ref 1), some (.int (xs 1)), some (.int (xs 2)), some (.int (xs 3))], [.int 0], (mm_fw1 (mm_zi 64) (.inr (10, mm_fw1f30 (.int 0))) (mm_zi 12288) []))) 1 3000 rfl ?_
        exact mm_xfn rfl
      refine mm_xk (S' := (29, [some (.ref 0), some (.int (xs 1)), some (.int (xs 2)), some (.int (xs 3)), some (.int (xs 4)), some (.int (xs 5)), some (.int (xs 6)), some (.int (xs 7)), some (.int (xs 8)), none, none, none, none, none, none], [], (mm_fw1 (mm_zi 64) (.inr (10, mm_fw1f30 (.int 0))) (mm_zi 12288) []))) 1 3000 rfl ?_
      exact mm_xfn rfl
    refine mm_xk (S' := (23, [some (.ref 0), some (.int (xs 1)), some (.int (xs 2)), some (.int (xs 3)), some (.int (xs 4)), some (.int (xs 5)), some (.int (xs 6)), some (.int (xs 7)), some (.int (xs 8)), some (.ref 48)], [.int 1], (mm_fw1 (mm_zi 64) (.inr (10, mm_fw1f30 (.int 0))) (mm_zi 12288) [.inr (13, [])]))) 2 3000 rfl ?_
    exact mm_xfn rfl
  refine mm_xk (S' := (301, [some (.ref 1000004), some (.ref 0), some (.ref 30), some (.ref 47), some (.int 0), some (.int 1), none], [.int (xs 8), .int (xs 7), .int (xs 6), .int (xs 5), .int (xs 4), .int (xs 3), .int (xs 2), .int (xs 1), .ref 30], (mm_fw1 (mm_zi 64) (.inr (10, mm_fw1f30 (.int 0))) (mm_zi 12288) [.inr (13, [])]))) 42 3000 rfl ?_
  refine mm_xcl (v := none) (w1 := (mm_fw1 (mm_zi 64) (.inr (10, mm_fw1f30 (.int 1))) (mm_zi 12288) [.inr (13, [])])) rfl ?_ ?_
  · skip
    refine mm_xk (S' := (1, [some (.ref 30), some (.int (xs 1)), some (.int (xs 2)), some (.int (xs 3)), some (.int (xs 4)), some (.int (xs 5)), some (.int (xs 6)), some (.int (xs 7)), some (.int (xs 8)), none, none, none, none, none], [.int (xs 1)], (mm_fw1 (mm_zi 64) (.inr (10, mm_fw1f30 (.int 0))) (mm_zi 12288) [.inr (13, [])]))) 1 3000 rfl ?_
    refine mm_xif1 rfl false (mm_lt0 (a := (xs 1).toInt) (b := 0) rfl rfl (by omega)) rfl ?_
    refine mm_xk (S' := (9, [some (.ref 30), some (.int (xs 1)), some (.int (xs 2)), some (.int (xs 3)), some (.int (xs 4)), some (.int (xs 5)), some (.int (xs 6)), some (.int (xs 7)), some (.int (xs 8)), none, none, none, none, none], [.int 1, .int (xs 1)], (mm_fw1 (mm_zi 64) (.inr (10, mm_fw1f30 (.int 0))) (mm_zi 12288) [.inr (13, [])]))) 3 3000 rfl ?_
    refine mm_xif2 rfl false (mm_ge0 (a := (xs 1).toInt) (b := 1) rfl rfl (by omega)) rfl ?_
    refine mm_xk (S' := (14, [some (.ref 30), some (.int (xs 1)), some (.int (xs 2)), some (.int (xs 3)), some (.int (xs 4)), some (.int (xs 5)), some (.int (xs 6)), some (.int (xs 7)), some (.int (xs 8)), none, none, none, none, none], [.int (xs 4)], (mm_fw1 (mm_zi 64) (.inr (10, mm_fw1f30 (.int 0))) (mm_zi 12288) [.inr (13, [])]))) 1 3000 rfl ?_
    refine mm_xif1 rfl false (mm_le0 (a := (xs 4).toInt) (b := 0) rfl rfl (by omega)) rfl ?_
    refine mm_xk (S' := (19, [some (.ref 30), some (.int (xs 1)), some (.int (xs 2)), some (.int (xs 3)), some (.int (xs 4)), some (.int (xs 5)), some (.int (xs 6)), some (.int (xs 7)), some (.int (xs 8)), none, none, none, none, none], [.int (xs 5)], (mm_fw1 (mm_zi 64) (.inr (10, mm_fw1f30 (.int 0))) (mm_zi 12288) [.inr (13, [])]))) 1 3000 rfl ?_
    refine mm_xif1 rfl false (mm_le0 (a := (xs 5).toInt) (b := 0) rfl rfl (by omega)) rfl ?_
    refine mm_xk (S' := (23, [some (.ref 30), some (.int (xs 1)), some (.int (xs 2)), some (.int (xs 3)), some (.int (xs 4)), some (.int (xs 5)), some (.int (xs 6)), some (.int (xs 7)), some (.int (xs 8)), none, none, none, none, none], [.int (xs 2)], (mm_fw1 (mm_zi 64) (.inr (10, mm_fw1f30 (.int 0))) (mm_zi 12288) [.inr (13, [])]))) 1 3000 rfl ?_
    refine mm_xif1 rfl false (mm_lt0 (a := (xs 2).toInt) (b := 0) rfl rfl (by omega)) rfl ?_
    refine mm_xk (S' := (27, [some (.ref 30), some (.int (xs 1)), some (.int (xs 2)), some (.int (xs 3)), some (.int (xs 4)), some (.int (xs 5)), some (.int (xs 6)), some (.int (xs 7)), some (.int (xs 8)), none, none, none, none, none], [.int (xs 3)], (mm_fw1 (mm_zi 64) (.inr (10, mm_fw1f30 (.int 0))) (mm_zi 12288) [.inr (13, [])]))) 1 3000 rfl ?_
    refine mm_xif1 rfl true (mm_lt1 (a := (xs 3).toInt) (b := 0) rfl rfl (by omega)) rfl ?_
    refine mm_xk (S' := (130, [some (.ref 30), some (.int (xs 1)), some (.int (xs 2)), some (.int (xs 3)), some (.int (xs 4)), some (.int (xs 5)), some (.int (xs 6)), some (.int (xs 7)), some (.int (xs 8)), some (.int 0), none, none, none, none], [], (mm_fw1 (mm_zi 64) (.inr (10, mm_fw1f30 (.int 1))) (mm_zi 12288) [.inr (13, [])]))) 8 3000 rfl ?_
    refine mm_xk (S' := (137, [some (.ref 30), some (.int (xs 1)), some (.int (xs 2)), some (.int (xs 3)), some (.int (xs 4)), some (.int (xs 5)), some (.int (xs 6)), some (.int (xs 7)), some (.int (xs 8)), some (.int 0), none, none, none, none], [], (mm_fw1 (mm_zi 64) (.inr (10, mm_fw1f30 (.int 1))) (mm_zi 12288) [.inr (13, [])]))) 3 3000 rfl ?_
    exact mm_xfn rfl
  refine mm_xk (S' := (1092, [some (.ref 1000004), some (.ref 0), some (.ref 30), some (.ref 47), some (.int 9), some (.int 1), none], [], (mm_fw1 (mm_zi 64) (.inr (10, mm_fw1f30 (.int 1))) (mm_zi 12288) [.inr (13, [])]))) 6 3000 rfl ?_
  refine mm_xk (S' := (1096, [some (.ref 1000004), some (.ref 0), some (.ref 30), some (.ref 47), some (.int 9), some (.int 1), none], [.int 1], (mm_fw1 (mm_zi 64) (.inr (10, mm_fw1f30 (.int 1))) (mm_zi 12288) [.inr (13, [])]))) 8 3000 rfl ?_
  exact mm_xfn rfl
set_option maxRecDepth 100000 in
set_option maxHeartbeats 4000000 in
theorem mm_lf1_21 (xs : Nat → Int32) (l1 : 0 ≤ (xs 1).toInt) (u1 : (xs 1).toInt ≤ 0) (l2 : 0 ≤ (xs 2).toInt) (u2 : (xs 2).toInt ≤ 7) (u3 : (xs 3).toInt ≤ -1) (l4 : 1 ≤ (xs 4).toInt) (u5 : (xs 5).toInt ≤ 0) : mm_Ok xs 192 := by
  refine mm_Ok_of (w' := ((mm_w0.set 30 (.inr (10, (mm_f30.set 0 (.int 1))))) ++ [.inr (13, [])])) (mm_szP 6 (mm_szS 63 mm_sz0 rfl) rfl) rfl rfl ?_
  refine mm_xk (S' := (244, [some (.ref 1000004), some (.ref 0), some (.ref 30), some (.ref 47), some (.int 0), none, none], [.int (xs 8), .int (xs 7), .int (xs 6), .int (xs 5), .int (xs 4), .int (xs 3), .int (xs 2), .int (xs 1), .ref 0], (mm_fw1 (mm_zi 64) (.inr (10, mm_fw1f30 (.int 0))) (mm_zi 12288) []))) 41 3000 rfl ?_
  refine mm_xcl (v := (some (.int 1))) (w1 := (mm_fw1 (mm_zi 64) (.inr (10, mm_fw1f30 (.int 0))) (mm_zi 12288) [.inr (13, [])])) rfl ?_ ?_
  · skip
    refine mm_xk (S' := (14, [some (.ref 0), some (.int (xs 1)), some (.int (xs 2)), some (.int (xs 3)), some (.int (xs 4)), some (.int (xs 5)), some (.int (xs 6)), some (.int (xs 7)), some (.int (xs 8)), none], [.int (xs 8), .int (xs 7), .int (xs 6), .int (xs 5), .int (xs 4), .int (xs 3), .int (xs 2), .int (xs 1), .ref 0], (mm_fw1 (mm_zi 64) (.inr (10, mm_fw1f30 (.int 0))) (mm_zi 12288) []))) 9 3000 rfl ?_
    refine mm_xct (x := 13) (hp := 20) (w1 := (mm_fw1 (mm_zi 64) (.inr (10, mm_fw1f30 (.int 0))) (mm_zi 12288) [.inr (13, [])])) rfl ?_ rfl ?_
    · skip
      refine mm_xk (S' := (7, [some (.ref 0), some (.int (xs 1)), some (.int (xs 2)), some (.int (xs 3)), some (.int (xs 4)), some (.int (xs 5)), some (.int (xs 6)), some (.int (xs 7)), some (.int (xs 8)), none, none, none, none, none, none], [.int (xs 3), .int (xs 2), .int (xs 1), .ref 1], (mm_fw1 (mm_zi 64) (.inr (10, mm_fw1f30 (.int 0))) (mm_zi 12288) []))) 5 3000 rfl ?_
      refine mm_xcl (v := (some (.int 0))) (w1 := (mm_fw1 (mm_zi 64) (.inr (10, mm_fw1f30 (.int 0))) (mm_zi 12288) [])) rfl ?_ ?_
      · skip
        refine mm_xk (S' := (1, [some (.ref 1), some (.int (xs 1)), some (.int (xs 2)), some (.int (xs 3))], [.int (xs 1)], (mm_fw1 (mm_zi 64) (.inr (10, mm_fw1f30 (.int 0))) (mm_zi 12288) []))) 1 3000 rfl ?_
        refine mm_xif1 rfl false (mm_lt0 (a := (xs 1).toInt) (b := 0) rfl rfl (by omega)) rfl ?_
        refine mm_xk (S' := (9, [some (.ref 1), some (.int (xs 1)), some (.int (xs 2)), some (.int (xs 3))], [.int 1, .int (xs 1)], (mm_fw1 (mm_zi 64) (.inr (10, mm_fw1f30 (.int 0))) (mm_zi 12288) []))) 3 3000 rfl ?_
        refine mm_xif2 rfl false (mm_ge0 (a := (xs 1).toInt) (b := 1) rfl rfl (by omega)) rfl ?_
        refine mm_xk (S' := (13, [some (.ref 1), some (.int (xs 1)), some (.int (xs 2)), some (.int (xs 3))], [.int (xs 2)], (mm_fw1 (mm_zi 64) (.inr (10, mm_fw1f30 (.int 0))) (mm_zi 12288) []))) 1 3000 rfl ?_
        refine mm_xif1 rfl false (mm_lt0 (a := (xs 2).toInt) (b := 0) rfl rfl (by omega)) rfl ?_
        refine mm_xk (S' := (21, [some (.ref 1), some (.int (xs 1)), some (.int (xs 2)), some (.int (xs 3))], [.int 8, .int (xs 2)], (mm_fw1 (mm_zi 64) (.inr (10, mm_fw1f30 (.int 0))) (mm_zi 12288) []))) 3 3000 rfl ?_
        refine mm_xif2 rfl false (mm_ge0 (a := (xs 2).toInt) (b := 8) rfl rfl (by omega)) rfl ?_
        refine mm_xk (S' := (25, [some (.ref 1), some (.int (xs 1)), some (.int (xs 2)), some (.int (xs 3))], [.int (xs 3)], (mm_fw1 (mm_zi 64) (.inr (10, mm_fw1f30 (.int 0))) (mm_zi 12288) []))) 1 3000 rfl ?_
        refine mm_xif1 rfl true (mm_lt1 (a := (xs 3).toInt) (b := 0) rfl rfl (by omega)) rfl ?_
        refine mm_xk (S' := (41, [some (.ref 1), some (.int (xs 1)), some (.int (xs 2)), some (.int (xs 3))], [.int 0], (mm_fw1 (mm_zi 64) (.inr (10, mm_fw1f30 (.int 0))) (mm_zi 12288) []))) 1 3000 rfl ?_
        exact mm_xfn rfl
      refine mm_xk (S' := (29, [some (.ref 0), some (.int (xs 1)), some (.int (xs 2)), some (.int (xs 3)), some (.int (xs 4)), some (.int (xs 5)), some (.int (xs 6)), some (.int (xs 7)), some (.int (xs 8)), none, none, none, none, none, none], [], (mm_fw1 (mm_zi 64) (.inr (10, mm_fw1f30 (.int 0))) (mm_zi 12288) []))) 1 3000 rfl ?_
      exact mm_xfn rfl
    refine mm_xk (S' := (23, [some (.ref 0), some (.int (xs 1)), some (.int (xs 2)), some (.int (xs 3)), some (.int (xs 4)), some (.int (xs 5)), some (.int (xs 6)), some (.int (xs 7)), some (.int (xs 8)), some (.ref 48)], [.int 1], (mm_fw1 (mm_zi 64) (.inr (10, mm_fw1f30 (.int 0))) (mm_zi 12288) [.inr (13, [])]))) 2 3000 rfl ?_
    exact mm_xfn rfl
  refine mm_xk (S' := (301, [some (.ref 1000004), some (.ref 0), some (.ref 30), some (.ref 47), some (.int 0), some (.int 1), none], [.int (xs 8), .int (xs 7), .int (xs 6), .int (xs 5), .int (xs 4), .int (xs 3), .int (xs 2), .int (xs 1), .ref 30], (mm_fw1 (mm_zi 64) (.inr (10, mm_fw1f30 (.int 0))) (mm_zi 12288) [.inr (13, [])]))) 42 3000 rfl ?_
  refine mm_xcl (v := none) (w1 := (mm_fw1 (mm_zi 64) (.inr (10, mm_fw1f30 (.int 1))) (mm_zi 12288) [.inr (13, [])])) rfl ?_ ?_
  · skip
    refine mm_xk (S' := (1, [some (.ref 30), some (.int (xs 1)), some (.int (xs 2)), some (.int (xs 3)), some (.int (xs 4)), some (.int (xs 5)), some (.int (xs 6)), some (.int (xs 7)), some (.int (xs 8)), none, none, none, none, none], [.int (xs 1)], (mm_fw1 (mm_zi 64) (.inr (10, mm_fw1f30 (.int 0))) (mm_zi 12288) [.inr (13, [])]))) 1 3000 rfl ?_
    refine mm_xif1 rfl false (mm_lt0 (a := (xs 1).toInt) (b := 0) rfl rfl (by omega)) rfl ?_
    refine mm_xk (S' := (9, [some (.ref 30), some (.int (xs 1)), some (.int (xs 2)), some (.int (xs 3)), some (.int (xs 4)), some (.int (xs 5)), some (.int (xs 6)), some (.int (xs 7)), some (.int (xs 8)), none, none, none, none, none], [.int 1, .int (xs 1)], (mm_fw1 (mm_zi 64) (.inr (10, mm_fw1f30 (.int 0))) (mm_zi 12288) [.inr (13, [])]))) 3 3000 rfl ?_
    refine mm_xif2 rfl false (mm_ge0 (a := (xs 1).toInt) (b := 1) rfl rfl (by omega)) rfl ?_
    refine mm_xk (S' := (14, [some (.ref 30), some (.int (xs 1)), some (.int (xs 2)), some (.int (xs 3)), some (.int (xs 4)), some (.int (xs 5)), some (.int (xs 6)), some (.int (xs 7)), some (.int (xs 8)), none, none, none, none, none], [.int (xs 4)], (mm_fw1 (mm_zi 64) (.inr (10, mm_fw1f30 (.int 0))) (mm_zi 12288) [.inr (13, [])]))) 1 3000 rfl ?_
    refine mm_xif1 rfl false (mm_le0 (a := (xs 4).toInt) (b := 0) rfl rfl (by omega)) rfl ?_
    refine mm_xk (S' := (19, [some (.ref 30), some (.int (xs 1)), some (.int (xs 2)), some (.int (xs 3)), some (.int (xs 4)), some (.int (xs 5)), some (.int (xs 6)), some (.int (xs 7)), some (.int (xs 8)), none, none, none, none, none], [.int (xs 5)], (mm_fw1 (mm_zi 64) (.inr (10, mm_fw1f30 (.int 0))) (mm_zi 12288) [.inr (13, [])]))) 1 3000 rfl ?_
    refine mm_xif1 rfl true (mm_le1 (a := (xs 5).toInt) (b := 0) rfl rfl (by omega)) rfl ?_
    refine mm_xk (S' := (130, [some (.ref 30), some (.int (xs 1)), some (.int (xs 2)), some (.int (xs 3)), some (.int (xs 4)), some (.int (xs 5)), some (.int (xs 6)), some (.int (xs 7)), some (.int (xs 8)), some (.int 0), none, none, none, none], [], (mm_fw1 (mm_zi 64) (.inr (10, mm_fw1f30 (.int 1))) (mm_zi 12288) [.inr (13, [])]))) 8 3000 rfl ?_
    refine mm_xk (S' := (137, [some (.ref 30), some (.int (xs 1)), some (.int (xs 2)), some (.int (xs 3)), some (.int (xs 4)), some (.int (xs 5)), some (.int (xs 6)), some (.int (xs 7)), some (.int (xs 8)), some (.int 0), none, none, none, none], [], (mm_fw1 (mm_zi 64) (.inr (10, mm_fw1f30 (.int 1))) (mm_zi 12288) [.inr (13, [])]))) 3 3000 rfl ?_
    exact mm_xfn rfl
  refine mm_xk (S' := (1092, [some (.ref 1000004), some (.ref 0), some (.ref 30), some (.ref 47), some (.int 9), some (.int 1), none], [], (mm_fw1 (mm_zi 64) (.inr (10, mm_fw1f30 (.int 1))) (mm_zi 12288) [.inr (13, [])]))) 6 3000 rfl ?_
  refine mm_xk (S' := (1096, [some (.ref 1000004), some (.ref 0), some (.ref 30), some (.ref 47), some (.int 9), some (.int 1), none], [.int 1], (mm_fw1 (mm_zi 64) (.inr (10, mm_fw1f30 (.int 1))) (mm_zi 12288) [.inr (13, [])]))) 8 3000 rfl ?_
  exact mm_xfn rfl
set_option maxRecDepth 100000 in
set_option maxHeartbeats 4000000 in
theorem mm_lf1_22 (xs : Nat → Int32) (l1 : 0 ≤ (xs 1).toInt) (u1 : (xs 1).toInt ≤ 0) (l2 : 0 ≤ (xs 2).toInt) (u2 : (xs 2).toInt ≤ 7) (u3 : (xs 3).toInt ≤ -1) (u4 : (xs 4).toInt ≤ 0) : mm_Ok xs 192 := by
  refine mm_Ok_of (w' := ((mm_w0.set 30 (.inr (10, (mm_f30.set 0 (.int 1))))) ++ [.inr (13, [])])) (mm_szP 6 (mm_szS 63 mm_sz0 rfl) rfl) rfl rfl ?_
  refine mm_xk (S' := (244, [some (.ref 1000004), some (.ref 0), some (.ref 30), some (.ref 47), some (.int 0), none, none], [.int (xs 8), .int (xs 7), .int (xs 6), .int (xs 5), .int (xs 4), .int (xs 3), .int (xs 2), .int (xs 1), .ref 0], (mm_fw1 (mm_zi 64) (.inr (10, mm_fw1f30 (.int 0))) (mm_zi 12288) []))) 41 3000 rfl ?_
  refine mm_xcl (v := (some (.int 1))) (w1 := (mm_fw1 (mm_zi 64) (.inr (10, mm_fw1f30 (.int 0))) (mm_zi 12288) [.inr (13, [])])) rfl ?_ ?_
  · skip
    refine mm_xk (S' := (14, [some (.ref 0), some (.int (xs 1)), some (.int (xs 2)), some (.int (xs 3)), some (.int (xs 4)), some (.int (xs 5)), some (.int (xs 6)), some (.int (xs 7)), some (.int (xs 8)), none], [.int (xs 8), .int (xs 7), .int (xs 6), .int (xs 5), .int (xs 4), .int (xs 3), .int (xs 2), .int (xs 1), .ref 0], (mm_fw1 (mm_zi 64) (.inr (10, mm_fw1f30 (.int 0))) (mm_zi 12288) []))) 9 3000 rfl ?_
    refine mm_xct (x := 13) (hp := 20) (w1 := (mm_fw1 (mm_zi 64) (.inr (10, mm_fw1f30 (.int 0))) (mm_zi 12288) [.inr (13, [])])) rfl ?_ rfl ?_
    · skip
      refine mm_xk (S' := (7, [some (.ref 0), some (.int (xs 1)), some (.int (xs 2)), some (.int (xs 3)), some (.int (xs 4)), some (.int (xs 5)), some (.int (xs 6)), some (.int (xs 7)), some (.int (xs 8)), none, none, none, none, none, none], [.int (xs 3), .int (xs 2), .int (xs 1), .ref 1], (mm_fw1 (mm_zi 64) (.inr (10, mm_fw1f30 (.int 0))) (mm_zi 12288) []))) 5 3000 rfl ?_
      refine mm_xcl (v := (some (.int 0))) (w1 := (mm_fw1 (mm_zi 64) (.inr (10, mm_fw1f30 (.int 0))) (mm_zi 12288) [])) rfl ?_ ?_
      · skip
        refine mm_xk (S' := (1, [some (.ref 1), some (.int (xs 1)), some (.int (xs 2)), some (.int (xs 3))], [.int (xs 1)], (mm_fw1 (mm_zi 64) (.inr (10, mm_fw1f30 (.int 0))) (mm_zi 12288) []))) 1 3000 rfl ?_
        refine mm_xif1 rfl false (mm_lt0 (a := (xs 1).toInt) (b := 0) rfl rfl (by omega)) rfl ?_
        refine mm_xk (S' := (9, [some (.ref 1), some (.int (xs 1)), some (.int (xs 2)), some (.int (xs 3))], [.int 1, .int (xs 1)], (mm_fw1 (mm_zi 64) (.inr (10, mm_fw1f30 (.int 0))) (mm_zi 12288) []))) 3 3000 rfl ?_
        refine mm_xif2 rfl false (mm_ge0 (a := (xs 1).toInt) (b := 1) rfl rfl (by omega)) rfl ?_
        refine mm_xk (S' := (13, [some (.ref 1), some (.int (xs 1)), some (.int (xs 2)), some (.int (xs 3))], [.int (xs 2)], (mm_fw1 (mm_zi 64) (.inr (10, mm_fw1f30 (.int 0))) (mm_zi 12288) []))) 1 3000 rfl ?_
        refine mm_xif1 rfl false (mm_lt0 (a := (xs 2).toInt) (b := 0) rfl rfl (by omega)) rfl ?_
        refine mm_xk (S' := (21, [some (.ref 1), some (.int (xs 1)), some (.int (xs 2)), some (.int (xs 3))], [.int 8, .int (xs 2)], (mm_fw1 (mm_zi 64) (.inr (10, mm_fw1f30 (.int 0))) (mm_zi 12288) []))) 3 3000 rfl ?_
        refine mm_xif2 rfl false (mm_ge0 (a := (xs 2).toInt) (b := 8) rfl rfl (by omega)) rfl ?_
        refine mm_xk (S' := (25, [some (.ref 1), some (.int (xs 1)), some (.int (xs 2)), some (.int (xs 3))], [.int (xs 3)], (mm_fw1 (mm_zi 64) (.inr (10, mm_fw1f30 (.int 0))) (mm_zi 12288) []))) 1 3000 rfl ?_
        refine mm_xif1 rfl true (mm_lt1 (a := (xs 3).toInt) (b := 0) rfl rfl (by omega)) rfl ?_
        refine mm_xk (S' := (41, [some (.ref 1), some (.int (xs 1)), some (.int (xs 2)), some (.int (xs 3))], [.int 0], (mm_fw1 (mm_zi 64) (.inr (10, mm_fw1f30 (.int 0))) (mm_zi 12288) []))) 1 3000 rfl ?_
        exact mm_xfn rfl
      refine mm_xk (S' := (29, [some (.ref 0), some (.int (xs 1)), some (.int (xs 2)), some (.int (xs 3)), some (.int (xs 4)), some (.int (xs 5)), some (.int (xs 6)), some (.int (xs 7)), some (.int (xs 8)), none, none, none, none, none, none], [], (mm_fw1 (mm_zi 64) (.inr (10, mm_fw1f30 (.int 0))) (mm_zi 12288) []))) 1 3000 rfl ?_
      exact mm_xfn rfl
    refine mm_xk (S' := (23, [some (.ref 0), some (.int (xs 1)), some (.int (xs 2)), some (.int (xs 3)), some (.int (xs 4)), some (.int (xs 5)), some (.int (xs 6)), some (.int (xs 7)), some (.int (xs 8)), some (.ref 48)], [.int 1], (mm_fw1 (mm_zi 64) (.inr (10, mm_fw1f30 (.int 0))) (mm_zi 12288) [.inr (13, [])]))) 2 3000 rfl ?_
    exact mm_xfn rfl
  refine mm_xk (S' := (301, [some (.ref 1000004), some (.ref 0), some (.ref 30), some (.ref 47), some (.int 0), some (.int 1), none], [.int (xs 8), .int (xs 7), .int (xs 6), .int (xs 5), .int (xs 4), .int (xs 3), .int (xs 2), .int (xs 1), .ref 30], (mm_fw1 (mm_zi 64) (.inr (10, mm_fw1f30 (.int 0))) (mm_zi 12288) [.inr (13, [])]))) 42 3000 rfl ?_
  refine mm_xcl (v := none) (w1 := (mm_fw1 (mm_zi 64) (.inr (10, mm_fw1f30 (.int 1))) (mm_zi 12288) [.inr (13, [])])) rfl ?_ ?_
  · skip
    refine mm_xk (S' := (1, [some (.ref 30), some (.int (xs 1)), some (.int (xs 2)), some (.int (xs 3)), some (.int (xs 4)), some (.int (xs 5)), some (.int (xs 6)), some (.int (xs 7)), some (.int (xs 8)), none, none, none, none, none], [.int (xs 1)], (mm_fw1 (mm_zi 64) (.inr (10, mm_fw1f30 (.int 0))) (mm_zi 12288) [.inr (13, [])]))) 1 3000 rfl ?_
    refine mm_xif1 rfl false (mm_lt0 (a := (xs 1).toInt) (b := 0) rfl rfl (by omega)) rfl ?_
    refine mm_xk (S' := (9, [some (.ref 30), some (.int (xs 1)), some (.int (xs 2)), some (.int (xs 3)), some (.int (xs 4)), some (.int (xs 5)), some (.int (xs 6)), some (.int (xs 7)), some (.int (xs 8)), none, none, none, none, none], [.int 1, .int (xs 1)], (mm_fw1 (mm_zi 64) (.inr (10, mm_fw1f30 (.int 0))) (mm_zi 12288) [.inr (13, [])]))) 3 3000 rfl ?_
    refine mm_xif2 rfl false (mm_ge0 (a := (xs 1).toInt) (b := 1) rfl rfl (by omega)) rfl ?_
    refine mm_xk (S' := (14, [some (.ref 30), some (.int (xs 1)), some (.int (xs 2)), some (.int (xs 3)), some (.int (xs 4)), some (.int (xs 5)), some (.int (xs 6)), some (.int (xs 7)), some (.int (xs 8)), none, none, none, none, none], [.int (xs 4)], (mm_fw1 (mm_zi 64) (.inr (10, mm_fw1f30 (.int 0))) (mm_zi 12288) [.inr (13, [])]))) 1 3000 rfl ?_
    refine mm_xif1 rfl true (mm_le1 (a := (xs 4).toInt) (b := 0) rfl rfl (by omega)) rfl ?_
    refine mm_xk (S' := (130, [some (.ref 30), some (.int (xs 1)), some (.int (xs 2)), some (.int (xs 3)), some (.int (xs 4)), some (.int (xs 5)), some (.int (xs 6)), some (.int (xs 7)), some (.int (xs 8)), some (.int 0), none, none, none, none], [], (mm_fw1 (mm_zi 64) (.inr (10, mm_fw1f30 (.int 1))) (mm_zi 12288) [.inr (13, [])]))) 8 3000 rfl ?_
    refine mm_xk (S' := (137, [some (.ref 30), some (.int (xs 1)), some (.int (xs 2)), some (.int (xs 3)), some (.int (xs 4)), some (.int (xs 5)), some (.int (xs 6)), some (.int (xs 7)), some (.int (xs 8)), some (.int 0), none, none, none, none], [], (mm_fw1 (mm_zi 64) (.inr (10, mm_fw1f30 (.int 1))) (mm_zi 12288) [.inr (13, [])]))) 3 3000 rfl ?_
    exact mm_xfn rfl
  refine mm_xk (S' := (1092, [some (.ref 1000004), some (.ref 0), some (.ref 30), some (.ref 47), some (.int 9), some (.int 1), none], [], (mm_fw1 (mm_zi 64) (.inr (10, mm_fw1f30 (.int 1))) (mm_zi 12288) [.inr (13, [])]))) 6 3000 rfl ?_
  refine mm_xk (S' := (1096, [some (.ref 1000004), some (.ref 0), some (.ref 30), some (.ref 47), some (.int 9), some (.int 1), none], [.int 1], (mm_fw1 (mm_zi 64) (.inr (10, mm_fw1f30 (.int 1))) (mm_zi 12288) [.inr (13, [])]))) 8 3000 rfl ?_
  exact mm_xfn rfl
set_option maxRecDepth 100000 in
set_option maxHeartbeats 4000000 in
theorem mm_lf1_23 (xs : Nat → Int32) (l1 : 0 ≤ (xs 1).toInt) (u1 : (xs 1).toInt ≤ 0) (u2 : (xs 2).toInt ≤ -1) (l4 : 1 ≤ (xs 4).toInt) (l5 : 1 ≤ (xs 5).toInt) : mm_Ok xs 192 := by
  refine mm_Ok_of (w' := ((mm_w0.set 30 (.inr (10, (mm_f30.set 0 (.int 1))))) ++ [.inr (13, [])])) (mm_szP 6 (mm_szS 63 mm_sz0 rfl) rfl) rfl rfl ?_
  refine mm_xk (S' := (244, [some (.ref 1000004), some (.ref 0), some (.ref 30), some (.ref 47), some (.int 0), none, none], [.int (xs 8), .int (xs 7), .int (xs 6), .int (xs 5), .int (xs 4), .int (xs 3), .int (xs 2), .int (xs 1), .ref 0], (mm_fw1 (mm_zi 64) (.inr (10, mm_fw1f30 (.int 0))) (mm_zi 12288) []))) 41 3000 rfl ?_
  refine mm_xcl (v := (some (.int 1))) (w1 := (mm_fw1 (mm_zi 64) (.inr (10, mm_fw1f30 (.int 0))) (mm_zi 12288) [.inr (13, [])])) rfl ?_ ?_
  · skip
    refine mm_xk (S' := (14, [some (.ref 0), some (.int (xs 1)), some (.int (xs 2)), some (.int (xs 3)), some (.int (xs 4)), some (.int (xs 5)), some (.int (xs 6)), some (.int (xs 7)), some (.int (xs 8)), none], [.int (xs 8), .int (xs 7), .int (xs 6), .int (xs 5), .int (xs 4), .int (xs 3), .int (xs 2), .int (xs 1), .ref 0], (mm_fw1 (mm_zi 64) (.inr (10, mm_fw1f30 (.int 0))) (mm_zi 12288) []))) 9 3000 rfl ?_
    refine mm_xct (x := 13) (hp := 20) (w1 := (mm_fw1 (mm_zi 64) (.inr (10, mm_fw1f30 (.int 0))) (mm_zi 12288) [.inr (13, [])])) rfl ?_ rfl ?_
    · skip
      refine mm_xk (S' := (7, [some (.ref 0), some (.int (xs 1)), some (.int (xs 2)), some (.int (xs 3)), some (.int (xs 4)), some (.int (xs 5)), some (.int (xs 6)), some (.int (xs 7)), some (.int (xs 8)), none, none, none, none, none, none], [.int (xs 3), .int (xs 2), .int (xs 1), .ref 1], (mm_fw1 (mm_zi 64) (.inr (10, mm_fw1f30 (.int 0))) (mm_zi 12288) []))) 5 3000 rfl ?_
      refine mm_xcl (v := (some (.int 0))) (w1 := (mm_fw1 (mm_zi 64) (.inr (10, mm_fw1f30 (.int 0))) (mm_zi 12288) [])) rfl ?_ ?_
      · skip
        refine mm_xk (S' := (1, [some (.ref 1), some (.int (xs 1)), some (.int (xs 2)), some (.int (xs 3))], [.int (xs 1)], (mm_fw1 (mm_zi 64) (.inr (10, mm_fw1f30 (.int 0))) (mm_zi 12288) []))) 1 3000 rfl ?_
        refine mm_xif1 rfl false (mm_lt0 (a := (xs 1).toInt) (b := 0) rfl rfl (by omega)) rfl ?_
        refine mm_xk (S' := (9, [some (.ref 1), some (.int (xs 1)), some (.int (xs 2)), some (.int (xs 3))], [.int 1, .int (xs 1)], (mm_fw1 (mm_zi 64) (.inr (10, mm_fw1f30 (.int 0))) (mm_zi 12288) []))) 3 3000 rfl ?_
        refine mm_xif2 rfl false (mm_ge0 (a := (xs 1).toInt) (b := 1) rfl rfl (by omega)) rfl ?_
        refine mm_xk (S' := (13, [some (.ref 1), some (.int (xs 1)), some (.int (xs 2)), some (.int (xs 3))], [.int (xs 2)], (mm_fw1 (mm_zi 64) (.inr (10, mm_fw1f30 (.int 0))) (mm_zi 12288) []))) 1 3000 rfl ?_
        refine mm_xif1 rfl true (mm_lt1 (a := (xs 2).toInt) (b := 0) rfl rfl (by omega)) rfl ?_
        refine mm_xk (S' := (41, [some (.ref 1), some (.int (xs 1)), some (.int (xs 2)), some (.int (xs 3))], [.int 0], (mm_fw1 (mm_zi 64) (.inr (10, mm_fw1f30 (.int 0))) (mm_zi 12288) []))) 1 3000 rfl ?_
        exact mm_xfn rfl
      refine mm_xk (S' := (29, [some (.ref 0), some (.int (xs 1)), some (.int (xs 2)), some (.int (xs 3)), some (.int (xs 4)), some (.int (xs 5)), some (.int (xs 6)), some (.int (xs 7)), some (.int (xs 8)), none, none, none, none, none, none], [], (mm_fw1 (mm_zi 64) (.inr (10, mm_fw1f30 (.int 0))) (mm_zi 12288) []))) 1 3000 rfl ?_
      exact mm_xfn rfl
    refine mm_xk (S' := (23, [some (.ref 0), some (.int (xs 1)), some (.int (xs 2)), some (.int (xs 3)), some (.int (xs 4)), some (.int (xs 5)), some (.int (xs 6)), some (.int (xs 7)), some (.int (xs 8)), some (.ref 48)], [.int 1], (mm_fw1 (mm_zi 64) (.inr (10, mm_fw1f30 (.int 0))) (mm_zi 12288) [.inr (13, [])]))) 2 3000 rfl ?_
    exact mm_xfn rfl
  refine mm_xk (S' := (301, [some (.ref 1000004), some (.ref 0), some (.ref 30), some (.ref 47), some (.int 0), some (.int 1), none], [.int (xs 8), .int (xs 7), .int (xs 6), .int (xs 5), .int (xs 4), .int (xs 3), .int (xs 2), .int (xs 1), .ref 30], (mm_fw1 (mm_zi 64) (.inr (10, mm_fw1f30 (.int 0))) (mm_zi 12288) [.inr (13, [])]))) 42 3000 rfl ?_
  refine mm_xcl (v := none) (w1 := (mm_fw1 (mm_zi 64) (.inr (10, mm_fw1f30 (.int 1))) (mm_zi 12288) [.inr (13, [])])) rfl ?_ ?_
  · skip
    refine mm_xk (S' := (1, [some (.ref 30), some (.int (xs 1)), some (.int (xs 2)), some (.int (xs 3)), some (.int (xs 4)), some (.int (xs 5)), some (.int (xs 6)), some (.int (xs 7)), some (.int (xs 8)), none, none, none, none, none], [.int (xs 1)], (mm_fw1 (mm_zi 64) (.inr (10, mm_fw1f30 (.int 0))) (mm_zi 12288) [.inr (13, [])]))) 1 3000 rfl ?_
    refine mm_xif1 rfl false (mm_lt0 (a := (xs 1).toInt) (b := 0) rfl rfl (by omega)) rfl ?_
    refine mm_xk (S' := (9, [some (.ref 30), some (.int (xs 1)), some (.int (xs 2)), some (.int (xs 3)), some (.int (xs 4)), some (.int (xs 5)), some (.int (xs 6)), some (.int (xs 7)), some (.int (xs 8)), none, none, none, none, none], [.int 1, .int (xs 1)], (mm_fw1 (mm_zi 64) (.inr (10, mm_fw1f30 (.int 0))) (mm_zi 12288) [.inr (13, [])]))) 3 3000 rfl ?_
    refine mm_xif2 rfl false (mm_ge0 (a := (xs 1).toInt) (b := 1) rfl rfl (by omega)) rfl ?_
    refine mm_xk (S' := (14, [some (.ref 30), some (.int (xs 1)), some (.int (xs 2)), some (.int (xs 3)), some (.int (xs 4)), some (.int (xs 5)), some (.int (xs 6)), some (.int (xs 7)), some (.int (xs 8)), none, none, none, none, none], [.int (xs 4)], (mm_fw1 (mm_zi 64) (.inr (10, mm_fw1f30 (.int 0))) (mm_zi 12288) [.inr (13, [])]))) 1 3000 rfl ?_
    refine mm_xif1 rfl false (mm_le0 (a := (xs 4).toInt) (b := 0) rfl rfl (by omega)) rfl ?_
    refine mm_xk (S' := (19, [some (.ref 30), some (.int (xs 1)), some (.int (xs 2)), some (.int (xs 3)), some (.int (xs 4)), some (.int (xs 5)), some (.int (xs 6)), some (.int (xs 7)), some (.int (xs 8)), none, none, none, none, none], [.int (xs 5)], (mm_fw1 (mm_zi 64) (.inr (10, mm_fw1f30 (.int 0))) (mm_zi 12288) [.inr (13, [])]))) 1 3000 rfl ?_
    refine mm_xif1 rfl false (mm_le0 (a := (xs 5).toInt) (b := 0) rfl rfl (by omega)) rfl ?_
    refine mm_xk (S' := (23, [some (.ref 30), some (.int (xs 1)), some (.int (xs 2)), some (.int (xs 3)), some (.int (xs 4)), some (.int (xs 5)), some (.int (xs 6)), some (.int (xs 7)), some (.int (xs 8)), none, none, none, none, none], [.int (xs 2)], (mm_fw1 (mm_zi 64) (.inr (10, mm_fw1f30 (.int 0))) (mm_zi 12288) [.inr (13, [])]))) 1 3000 rfl ?_
    refine mm_xif1 rfl true (mm_lt1 (a := (xs 2).toInt) (b := 0) rfl rfl (by omega)) rfl ?_
    refine mm_xk (S' := (130, [some (.ref 30), some (.int (xs 1)), some (.int (xs 2)), some (.int (xs 3)), some (.int (xs 4)), some (.int (xs 5)), some (.int (xs 6)), some (.int (xs 7)), some (.int (xs 8)), some (.int 0), none, none, none, none], [], (mm_fw1 (mm_zi 64) (.inr (10, mm_fw1f30 (.int 1))) (mm_zi 12288) [.inr (13, [])]))) 8 3000 rfl ?_
    refine mm_xk (S' := (137, [some (.ref 30), some (.int (xs 1)), some (.int (xs 2)), some (.int (xs 3)), some (.int (xs 4)), some (.int (xs 5)), some (.int (xs 6)), some (.int (xs 7)), some (.int (xs 8)), some (.int 0), none, none, none, none], [], (mm_fw1 (mm_zi 64) (.inr (10, mm_fw1f30 (.int 1))) (mm_zi 12288) [.inr (13, [])]))) 3 3000 rfl ?_
    exact mm_xfn rfl
  refine mm_xk (S' := (1092, [some (.ref 1000004), some (.ref 0), some (.ref 30), some (.ref 47), some (.int 9), some (.int 1), none], [], (mm_fw1 (mm_zi 64) (.inr (10, mm_fw1f30 (.int 1))) (mm_zi 12288) [.inr (13, [])]))) 6 3000 rfl ?_
  refine mm_xk (S' := (1096, [some (.ref 1000004), some (.ref 0), some (.ref 30), some (.ref 47), some (.int 9), some (.int 1), none], [.int 1], (mm_fw1 (mm_zi 64) (.inr (10, mm_fw1f30 (.int 1))) (mm_zi 12288) [.inr (13, [])]))) 8 3000 rfl ?_
  exact mm_xfn rfl
set_option maxRecDepth 100000 in
set_option maxHeartbeats 4000000 in
theorem mm_lf1_24 (xs : Nat → Int32) (l1 : 0 ≤ (xs 1).toInt) (u1 : (xs 1).toInt ≤ 0) (u2 : (xs 2).toInt ≤ -1) (l4 : 1 ≤ (xs 4).toInt) (u5 : (xs 5).toInt ≤ 0) : mm_Ok xs 192 := by
  refine mm_Ok_of (w' := ((mm_w0.set 30 (.inr (10, (mm_f30.set 0 (.int 1))))) ++ [.inr (13, [])])) (mm_szP 6 (mm_szS 63 mm_sz0 rfl) rfl) rfl rfl ?_
  refine mm_xk (S' := (244, [some (.ref 1000004), some (.ref 0), some (.ref 30), some (.ref 47), some (.int 0), none, none], [.int (xs 8), .int (xs 7), .int (xs 6), .int (xs 5), .int (xs 4), .int (xs 3), .int (xs 2), .int (xs 1), .ref 0], (mm_fw1 (mm_zi 64) (.inr (10, mm_fw1f30 (.int 0))) (mm_zi 12288) []))) 41 3000 rfl ?_
  refine mm_xcl (v := (some (.int 1))) (w1 := (mm_fw1 (mm_zi 64) (.inr (10, mm_fw1f30 (.int 0))) (mm_zi 12288) [.inr (13, [])])) rfl ?_ ?_
  · skip
    refine mm_xk (S' := (14, [some (.ref 0), some (.int (xs 1)), some (.int (xs 2)), some (.int (xs 3)), some (.int (xs 4)), some (.int (xs 5)), some (.int (xs 6)), some (.int (xs 7)), some (.int (xs 8)), none], [.int (xs 8), .int (xs 7), .int (xs 6), .int (xs 5), .int (xs 4), .int (xs 3), .int (xs 2), .int (xs 1), .ref 0], (mm_fw1 (mm_zi 64) (.inr (10, mm_fw1f30 (.int 0))) (mm_zi 12288) []))) 9 3000 rfl ?_
    refine mm_xct (x := 13) (hp := 20) (w1 := (mm_fw1 (mm_zi 64) (.inr (10, mm_fw1f30 (.int 0))) (mm_zi 12288) [.inr (13, [])])) rfl ?_ rfl ?_
    · skip
      refine mm_xk (S' := (7, [some (.ref 0), some (.int (xs 1)), some (.int (xs 2)), some (.int (xs 3)), some (.int (xs 4)), some (.int (xs 5)), some (.int (xs 6)), some (.int (xs 7)), some (.int (xs 8)), none, none, none, none, none, none], [.int (xs 3), .int (xs 2), .int (xs 1), .ref 1], (mm_fw1 (mm_zi 64) (.inr (10, mm_fw1f30 (.int 0))) (mm_zi 12288) []))) 5 3000 rfl ?_
      refine mm_xcl (v := (some (.int 0))) (w1 := (mm_fw1 (mm_zi 64) (.inr (10, mm_fw1f30 (.int 0))) (mm_zi 12288) [])) rfl ?_ ?_
      · skip
        refine mm_xk (S' := (1, [some (.ref 1), some (.int (xs 1)), some (.int (xs 2)), some (.int (xs 3))], [.int (xs 1)], (mm_fw1 (mm_zi 64) (.inr (10, mm_fw1f30 (.int 0))) (mm_zi 12288) []))) 1 3000 rfl ?_
        refine mm_xif1 rfl false (mm_lt0 (a := (xs 1).toInt) (b := 0) rfl rfl (by omega)) rfl ?_
        refine mm_xk (S' := (9, [some (.ref 1), some (.int (xs 1)), some (.int (xs 2)), some (.int (xs 3))], [.int 1, .int (xs 1)], (mm_fw1 (mm_zi 64) (.inr (10, mm_fw1f30 (.int 0))) (mm_zi 12288) []))) 3 3000 rfl ?_
        refine mm_xif2 rfl false (mm_ge0 (a := (xs 1).toInt) (b := 1) rfl rfl (by omega)) rfl ?_
        refine mm_xk (S' := (13, [some (.ref 1), some (.int (xs 1)), some (.int (xs 2)), some (.int (xs 3))], [.int (xs 2)], (mm_fw1 (mm_zi 64) (.inr (10, mm_fw1f30 (.int 0))) (mm_zi 12288) []))) 1 3000 rfl ?_
        refine mm_xif1 rfl true (mm_lt1 (a := (xs 2).toInt) (b := 0) rfl rfl (by omega)) rfl ?_
        refine mm_xk (S' := (41, [some (.ref 1), some (.int (xs 1)), some (.int (xs 2)), some (.int (xs 3))], [.int 0], (mm_fw1 (mm_zi 64) (.inr (10, mm_fw1f30 (.int 0))) (mm_zi 12288) []))) 1 3000 rfl ?_
        exact mm_xfn rfl
      refine mm_xk (S' := (29, [some (.ref 0), some (.int (xs 1)), some (.int (xs 2)), some (.int (xs 3)), some (.int (xs 4)), some (.int (xs 5)), some (.int (xs 6)), some (.int (xs 7)), some (.int (xs 8)), none, none, none, none, none, none], [], (mm_fw1 (mm_zi 64) (.inr (10, mm_fw1f30 (.int 0))) (mm_zi 12288) []))) 1 3000 rfl ?_
      exact mm_xfn rfl
    refine mm_xk (S' := (23, [some (.ref 0), some (.int (xs 1)), some (.int (xs 2)), some (.int (xs 3)), some (.int (xs 4)), some (.int (xs 5)), some (.int (xs 6)), some (.int (xs 7)), some (.int (xs 8)), some (.ref 48)], [.int 1], (mm_fw1 (mm_zi 64) (.inr (10, mm_fw1f30 (.int 0))) (mm_zi 12288) [.inr (13, [])]))) 2 3000 rfl ?_
    exact mm_xfn rfl
  refine mm_xk (S' := (301, [some (.ref 1000004), some (.ref 0), some (.ref 30), some (.ref 47), some (.int 0), some (.int 1), none], [.int (xs 8), .int (xs 7), .int (xs 6), .int (xs 5), .int (xs 4), .int (xs 3), .int (xs 2), .int (xs 1), .ref 30], (mm_fw1 (mm_zi 64) (.inr (10, mm_fw1f30 (.int 0))) (mm_zi 12288) [.inr (13, [])]))) 42 3000 rfl ?_
  refine mm_xcl (v := none) (w1 := (mm_fw1 (mm_zi 64) (.inr (10, mm_fw1f30 (.int 1))) (mm_zi 12288) [.inr (13, [])])) rfl ?_ ?_
  · skip
    refine mm_xk (S' := (1, [some (.ref 30), some (.int (xs 1)), some (.int (xs 2)), some (.int (xs 3)), some (.int (xs 4)), some (.int (xs 5)), some (.int (xs 6)), some (.int (xs 7)), some (.int (xs 8)), none, none, none, none, none], [.int (xs 1)], (mm_fw1 (mm_zi 64) (.inr (10, mm_fw1f30 (.int 0))) (mm_zi 12288) [.inr (13, [])]))) 1 3000 rfl ?_
    refine mm_xif1 rfl false (mm_lt0 (a := (xs 1).toInt) (b := 0) rfl rfl (by omega)) rfl ?_
    refine mm_xk (S' := (9, [some (.ref 30), some (.int (xs 1)), some (.int (xs 2)), some (.int (xs 3)), some (.int (xs 4)), some (.int (xs 5)), some (.int (xs 6)), some (.int (xs 7)), some (.int (xs 8)), none, none, none, none, none], [.int 1, .int (xs 1)], (mm_fw1 (mm_zi 64) (.inr (10, mm_fw1f30 (.int 0))) (mm_zi 12288) [.inr (13, [])]))) 3 3000 rfl ?_
    refine mm_xif2 rfl false (mm_ge0 (a := (xs 1).toInt) (b := 1) rfl rfl (by omega)) rfl ?_
    refine mm_xk (S' := (14, [some (.ref 30), some (.int (xs 1)), some (.int (xs 2)), some (.int (xs 3)), some (.int (xs 4)), some (.int (xs 5)), some (.int (xs 6)), some (.int (xs 7)), some (.int (xs 8)), none, none, none, none, none], [.int (xs 4)], (mm_fw1 (mm_zi 64) (.inr (10, mm_fw1f30 (.int 0))) (mm_zi 12288) [.inr (13, [])]))) 1 3000 rfl ?_
    refine mm_xif1 rfl false (mm_le0 (a := (xs 4).toInt) (b := 0) rfl rfl (by omega)) rfl ?_
    refine mm_xk (S' := (19, [some (.ref 30), some (.int (xs 1)), some (.int (xs 2)), some (.int (xs 3)), some (.int (xs 4)), some (.int (xs 5)), some (.int (xs 6)), some (.int (xs 7)), some (.int (xs 8)), none, none, none, none, none], [.int (xs 5)], (mm_fw1 (mm_zi 64) (.inr (10, mm_fw1f30 (.int 0))) (mm_zi 12288) [.inr (13, [])]))) 1 3000 rfl ?_
    refine mm_xif1 rfl true (mm_le1 (a := (xs 5).toInt) (b := 0) rfl rfl (by omega)) rfl ?_
    refine mm_xk (S' := (130, [some (.ref 30), some (.int (xs 1)), some (.int (xs 2)), some (.int (xs 3)), some (.int (xs 4)), some (.int (xs 5)), some (.int (xs 6)), some (.int (xs 7)), some (.int (xs 8)), some (.int 0), none, none, none, none], [], (mm_fw1 (mm_zi 64) (.inr (10, mm_fw1f30 (.int 1))) (mm_zi 12288) [.inr (13, [])]))) 8 3000 rfl ?_
    refine mm_xk (S' := (137, [some (.ref 30), some (.int (xs 1)), some (.int (xs 2)), some (.int (xs 3)), some (.int (xs 4)), some (.int (xs 5)), some (.int (xs 6)), some (.int (xs 7)), some (.int (xs 8)), some (.int 0), none, none, none, none], [], (mm_fw1 (mm_zi 64) (.inr (10, mm_fw1f30 (.int 1))) (mm_zi 12288) [.inr (13, [])]))) 3 3000 rfl ?_
    exact mm_xfn rfl
  refine mm_xk (S' := (1092, [some (.ref 1000004), some (.ref 0), some (.ref 30), some (.ref 47), some (.int 9), some (.int 1), none], [], (mm_fw1 (mm_zi 64) (.inr (10, mm_fw1f30 (.int 1))) (mm_zi 12288) [.inr (13, [])]))) 6 3000 rfl ?_
  refine mm_xk (S' := (1096, [some (.ref 1000004), some (.ref 0), some (.ref 30), some (.ref 47), some (.int 9), some (.int 1), none], [.int 1], (mm_fw1 (mm_zi 64) (.inr (10, mm_fw1f30 (.int 1))) (mm_zi 12288) [.inr (13, [])]))) 8 3000 rfl ?_
  exact mm_xfn rfl
set_option maxRecDepth 100000 in
set_option maxHeartbeats 4000000 in
theorem mm_lf1_25 (xs : Nat → Int32) (l1 : 0 ≤ (xs 1).toInt) (u1 : (xs 1).toInt ≤ 0) (u2 : (xs 2).toInt ≤ -1) (u4 : (xs 4).toInt ≤ 0) : mm_Ok xs 192 := by
  refine mm_Ok_of (w' := ((mm_w0.set 30 (.inr (10, (mm_f30.set 0 (.int 1))))) ++ [.inr (13, [])])) (mm_szP 6 (mm_szS 63 mm_sz0 rfl) rfl) rfl rfl ?_
  refine mm_xk (S' := (244, [some (.ref 1000004), some (.ref 0), some (.ref 30), some (.ref 47), some (.int 0), none, none], [.int (xs 8), .int (xs 7), .int (xs 6), .int (xs 5), .int (xs 4), .int (xs 3), .int (xs 2), .int (xs 1), .ref 0], (mm_fw1 (mm_zi 64) (.inr (10, mm_fw1f30 (.int 0))) (mm_zi 12288) []))) 41 3000 rfl ?_
  refine mm_xcl (v := (some (.int 1))) (w1 := (mm_fw1 (mm_zi 64) (.inr (10, mm_fw1f30 (.int 0))) (mm_zi 12288) [.inr (13, [])])) rfl ?_ ?_
  · skip
    refine mm_xk (S' := (14, [some (.ref 0), some (.int (xs 1)), some (.int (xs 2)), some (.int (xs 3)), some (.int (xs 4)), some (.int (xs 5)), some (.int (xs 6)), some (.int (xs 7)), some (.int (xs 8)), none], [.int (xs 8), .int (xs 7), .int (xs 6), .int (xs 5), .int (xs 4), .int (xs 3), .int (xs 2), .int (xs 1), .ref 0], (mm_fw1 (mm_zi 64) (.inr (10, mm_fw1f30 (.int 0))) (mm_zi 12288) []))) 9 3000 rfl ?_
    refine mm_xct (x := 13) (hp := 20) (w1 := (mm_fw1 (mm_zi 64) (.inr (10, mm_fw1f30 (.int 0))) (mm_zi 12288) [.inr (13, [])])) rfl ?_ rfl ?_
    · skip
      refine mm_xk (S' := (7, [some (.ref 0), some (.int (xs 1)), some (.int (xs 2)), some (.int (xs 3)), some (.int (xs 4)), some (.int (xs 5)), some (.int (xs 6)), some (.int (xs 7)), some (.int (xs 8)), none, none, none, none, none, none], [.int (xs 3), .int (xs 2), .int (xs 1), .ref 1], (mm_fw1 (mm_zi 64) (.inr (10, mm_fw1f30 (.int 0))) (mm_zi 12288) []))) 5 3000 rfl ?_
      refine mm_xcl (v := (some (.int 0))) (w1 := (mm_fw1 (mm_zi 64) (.inr (10, mm_fw1f30 (.int 0))) (mm_zi 12288) [])) rfl ?_ ?_
      · skip
        refine mm_xk (S' := (1, [some (.ref 1), some (.int (xs 1)), some (.int (xs 2)), some (.int (xs 3))], [.int (xs 1)], (mm_fw1 (mm_zi 64) (.inr (10, mm_fw1f30 (.int 0))) (mm_zi 12288) []))) 1 3000 rfl ?_
        refine mm_xif1 rfl false (mm_lt0 (a := (xs 1).toInt) (b := 0) rfl rfl (by omega)) rfl ?_
        refine mm_xk (S' := (9, [some (.ref 1), some (.int (xs 1)), some (.int (xs 2)), some (.int (xs 3))], [.int 1, .int (xs 1)], (mm_fw1 (mm_zi 64) (.inr (10, mm_fw1f30 (.int 0))) (mm_zi 12288) []))) 3 3000 rfl ?_
        refine mm_xif2 rfl false (mm_ge0 (a := (xs 1).toInt) (b := 1) rfl rfl (by omega)) rfl ?_
        refine mm_xk (S' := (13, [some (.ref 1), some (.int (xs 1)), some (.int (xs 2)), some (.int (xs 3))], [.int (xs 2)], (mm_fw1 (mm_zi 64) (.inr (10, mm_fw1f30 (.int 0))) (mm_zi 12288) []))) 1 3000 rfl ?_
        refine mm_xif1 rfl true (mm_lt1 (a := (xs 2).toInt) (b := 0) rfl rfl (by omega)) rfl ?_
        refine mm_xk (S' := (41, [some (.ref 1), some (.int (xs 1)), some (.int (xs 2)), some (.int (xs 3))], [.int 0], (mm_fw1 (mm_zi 64) (.inr (10, mm_fw1f30 (.int 0))) (mm_zi 12288) []))) 1 3000 rfl ?_
        exact mm_xfn rfl
      refine mm_xk (S' := (29, [some (.ref 0), some (.int (xs 1)), some (.int (xs 2)), some (.int (xs 3)), some (.int (xs 4)), some (.int (xs 5)), some (.int (xs 6)), some (.int (xs 7)), some (.int (xs 8)), none, none, none, none, none, none], [], (mm_fw1 (mm_zi 64) (.inr (10, mm_fw1f30 (.int 0))) (mm_zi 12288) []))) 1 3000 rfl ?_
      exact mm_xfn rfl
    refine mm_xk (S' := (23, [some (.ref 0), some (.int (xs 1)), some (.int (xs 2)), some (.int (xs 3)), some (.int (xs 4)), some (.int (xs 5)), some (.int (xs 6)), some (.int (xs 7)), some (.int (xs 8)), some (.ref 48)], [.int 1], (mm_fw1 (mm_zi 64) (.inr (10, mm_fw1f30 (.int 0))) (mm_zi 12288) [.inr (13, [])]))) 2 3000 rfl ?_
    exact mm_xfn rfl
  refine mm_xk (S' := (301, [some (.ref 1000004), some (.ref 0), some (.ref 30), some (.ref 47), some (.int 0), some (.int 1), none], [.int (xs 8), .int (xs 7), .int (xs 6), .int (xs 5), .int (xs 4), .int (xs 3), .int (xs 2), .int (xs 1), .ref 30], (mm_fw1 (mm_zi 64) (.inr (10, mm_fw1f30 (.int 0))) (mm_zi 12288) [.inr (13, [])]))) 42 3000 rfl ?_
  refine mm_xcl (v := none) (w1 := (mm_fw1 (mm_zi 64) (.inr (10, mm_fw1f30 (.int 1))) (mm_zi 12288) [.inr (13, [])])) rfl ?_ ?_
  · skip
    refine mm_xk (S' := (1, [some (.ref 30), some (.int (xs 1)), some (.int (xs 2)), some (.int (xs 3)), some (.int (xs 4)), some (.int (xs 5)), some (.int (xs 6)), some (.int (xs 7)), some (.int (xs 8)), none, none, none, none, none], [.int (xs 1)], (mm_fw1 (mm_zi 64) (.inr (10, mm_fw1f30 (.int 0))) (mm_zi 12288) [.inr (13, [])]))) 1 3000 rfl ?_
    refine mm_xif1 rfl false (mm_lt0 (a := (xs 1).toInt) (b := 0) rfl rfl (by omega)) rfl ?_
    refine mm_xk (S' := (9, [some (.ref 30), some (.int (xs 1)), some (.int (xs 2)), some (.int (xs 3)), some (.int (xs 4)), some (.int (xs 5)), some (.int (xs 6)), some (.int (xs 7)), some (.int (xs 8)), none, none, none, none, none], [.int 1, .int (xs 1)], (mm_fw1 (mm_zi 64) (.inr (10, mm_fw1f30 (.int 0))) (mm_zi 12288) [.inr (13, [])]))) 3 3000 rfl ?_
    refine mm_xif2 rfl false (mm_ge0 (a := (xs 1).toInt) (b := 1) rfl rfl (by omega)) rfl ?_
    refine mm_xk (S' := (14, [some (.ref 30), some (.int (xs 1)), some (.int (xs 2)), some (.int (xs 3)), some (.int (xs 4)), some (.int (xs 5)), some (.int (xs 6)), some (.int (xs 7)), some (.int (xs 8)), none, none, none, none, none], [.int (xs 4)], (mm_fw1 (mm_zi 64) (.inr (10, mm_fw1f30 (.int 0))) (mm_zi 12288) [.inr (13, [])]))) 1 3000 rfl ?_
    refine mm_xif1 rfl true (mm_le1 (a := (xs 4).toInt) (b := 0) rfl rfl (by omega)) rfl ?_
    refine mm_xk (S' := (130, [some (.ref 30), some (.int (xs 1)), some (.int (xs 2)), some (.int (xs 3)), some (.int (xs 4)), some (.int (xs 5)), some (.int (xs 6)), some (.int (xs 7)), some (.int (xs 8)), some (.int 0), none, none, none, none], [], (mm_fw1 (mm_zi 64) (.inr (10, mm_fw1f30 (.int 1))) (mm_zi 12288) [.inr (13, [])]))) 8 3000 rfl ?_
    refine mm_xk (S' := (137, [some (.ref 30), some (.int (xs 1)), some (.int (xs 2)), some (.int (xs 3)), some (.int (xs 4)), some (.int (xs 5)), some (.int (xs 6)), some (.int (xs 7)), some (.int (xs 8)), some (.int 0), none, none, none, none], [], (mm_fw1 (mm_zi 64) (.inr (10, mm_fw1f30 (.int 1))) (mm_zi 12288) [.inr (13, [])]))) 3 3000 rfl ?_
    exact mm_xfn rfl
  refine mm_xk (S' := (1092, [some (.ref 1000004), some (.ref 0), some (.ref 30), some (.ref 47), some (.int 9), some (.int 1), none], [], (mm_fw1 (mm_zi 64) (.inr (10, mm_fw1f30 (.int 1))) (mm_zi 12288) [.inr (13, [])]))) 6 3000 rfl ?_
  refine mm_xk (S' := (1096, [some (.ref 1000004), some (.ref 0), some (.ref 30), some (.ref 47), some (.int 9), some (.int 1), none], [.int 1], (mm_fw1 (mm_zi 64) (.inr (10, mm_fw1f30 (.int 1))) (mm_zi 12288) [.inr (13, [])]))) 8 3000 rfl ?_
  exact mm_xfn rfl
set_option maxRecDepth 100000 in
set_option maxHeartbeats 4000000 in
theorem mm_lf1_26 (xs : Nat → Int32) (u1 : (xs 1).toInt ≤ -1) : mm_Ok xs 192 := by
  refine mm_Ok_of (w' := ((mm_w0.set 30 (.inr (10, (mm_f30.set 0 (.int 1))))) ++ [.inr (13, [])])) (mm_szP 6 (mm_szS 63 mm_sz0 rfl) rfl) rfl rfl ?_
  refine mm_xk (S' := (244, [some (.ref 1000004), some (.ref 0), some (.ref 30), some (.ref 47), some (.int 0), none, none], [.int (xs 8), .int (xs 7), .int (xs 6), .int (xs 5), .int (xs 4), .int (xs 3), .int (xs 2), .int (xs 1), .ref 0], (mm_fw1 (mm_zi 64) (.inr (10, mm_fw1f30 (.int 0))) (mm_zi 12288) []))) 41 3000 rfl ?_
  refine mm_xcl (v := (some (.int 1))) (w1 := (mm_fw1 (mm_zi 64) (.inr (10, mm_fw1f30 (.int 0))) (mm_zi 12288) [.inr (13, [])])) rfl ?_ ?_
  · skip
    refine mm_xk (S' := (14, [some (.ref 0), some (.int (xs 1)), some (.int (xs 2)), some (.int (xs 3)), some (.int (xs 4)), some (.int (xs 5)), some (.int (xs 6)), some (.int (xs 7)), some (.int (xs 8)), none], [.int (xs 8), .int (xs 7), .int (xs 6), .int (xs 5), .int (xs 4), .int (xs 3), .int (xs 2), .int (xs 1), .ref 0], (mm_fw1 (mm_zi 64) (.inr (10, mm_fw1f30 (.int 0))) (mm_zi 12288) []))) 9 3000 rfl ?_
    refine mm_xct (x := 13) (hp := 20) (w1 := (mm_fw1 (mm_zi 64) (.inr (10, mm_fw1f30 (.int 0))) (mm_zi 12288) [.inr (13, [])])) rfl ?_ rfl ?_
    · skip
      refine mm_xk (S' := (7, [some (.ref 0), some (.int (xs 1)), some (.int (xs 2)), some (.int (xs 3)), some (.int (xs 4)), some (.int (xs 5)), some (.int (xs 6)), some (.int (xs 7)), some (.int (xs 8)), none, none, none, none, none, none], [.int (xs 3), .int (xs 2), .int (xs 1), .ref 1], (mm_fw1 (mm_zi 64) (.inr (10, mm_fw1f30 (.int 0))) (mm_zi 12288) []))) 5 3000 rfl ?_
      refine mm_xcl (v := (some (.int 0))) (w1 := (mm_fw1 (mm_zi 64) (.inr (10, mm_fw1f30 (.int 0))) (mm_zi 12288) [])) rfl ?_ ?_
      · skip
        refine mm_xk (S' := (1, [some (.ref 1), some (.int (xs 1)), some (.int (xs 2)), some (.int (xs 3))], [.int (xs 1)], (mm_fw1 (mm_zi 64) (.inr (10, mm_fw1f30 (.int 0))) (mm_zi 12288) []))) 1 3000 rfl ?_
        refine mm_xif1 rfl true (mm_lt1 (a := (xs 1).toInt) (b := 0) rfl rfl (by omega)) rfl ?_
        refine mm_xk (S' := (41, [some (.ref 1), some (.int (xs 1)), some (.int (xs 2)), some (.int (xs 3))], [.int 0], (mm_fw1 (mm_zi 64) (.inr (10, mm_fw1f30 (.int 0))) (mm_zi 12288) []))) 1 3000 rfl ?_
        exact mm_xfn rfl
      refine mm_xk (S' := (29, [some (.ref 0), some (.int (xs 1)), some (.int (xs 2)), some (.int (xs 3)), some (.int (xs 4)), some (.int (xs 5)), some (.int (xs 6)), some (.int (xs 7)), some (.int (xs 8)), none, none, none, none, none, none], [], (mm_fw1 (mm_zi 64) (.inr (10, mm_fw1f30 (.int 0))) (mm_zi 12288) []))) 1 3000 rfl ?_
      exact mm_xfn rfl
    refine mm_xk (S' := (23, [some (.ref 0), some (.int (xs 1)), some (.int (xs 2)), some (.int (xs 3)), some (.int (xs 4)), some (.int (xs 5)), some (.int (xs 6)), some (.int (xs 7)), some (.int (xs 8)), some (.ref 48)], [.int 1], (mm_fw1 (mm_zi 64) (.inr (10, mm_fw1f30 (.int 0))) (mm_zi 12288) [.inr (13, [])]))) 2 3000 rfl ?_
    exact mm_xfn rfl
  refine mm_xk (S' := (301, [some (.ref 1000004), some (.ref 0), some (.ref 30), some (.ref 47), some (.int 0), some (.int 1), none], [.int (xs 8), .int (xs 7), .int (xs 6), .int (xs 5), .int (xs 4), .int (xs 3), .int (xs 2), .int (xs 1), .ref 30], (mm_fw1 (mm_zi 64) (.inr (10, mm_fw1f30 (.int 0))) (mm_zi 12288) [.inr (13, [])]))) 42 3000 rfl ?_
  refine mm_xcl (v := none) (w1 := (mm_fw1 (mm_zi 64) (.inr (10, mm_fw1f30 (.int 1))) (mm_zi 12288) [.inr (13, [])])) rfl ?_ ?_
  · skip
    refine mm_xk (S' := (1, [some (.ref 30), some (.int (xs 1)), some (.int (xs 2)), some (.int (xs 3)), some (.int (xs 4)), some (.int (xs 5)), some (.int (xs 6)), some (.int (xs 7)), some (.int (xs 8)), none, none, none, none, none], [.int (xs 1)], (mm_fw1 (mm_zi 64) (.inr (10, mm_fw1f30 (.int 0))) (mm_zi 12288) [.inr (13, [])]))) 1 3000 rfl ?_
    refine mm_xif1 rfl true (mm_lt1 (a := (xs 1).toInt) (b := 0) rfl rfl (by omega)) rfl ?_
    refine mm_xk (S' := (130, [some (.ref 30), some (.int (xs 1)), some (.int (xs 2)), some (.int (xs 3)), some (.int (xs 4)), some (.int (xs 5)), some (.int (xs 6)), some (.int (xs 7)), some (.int (xs 8)), some (.int 0), none, none, none, none], [], (mm_fw1 (mm_zi 64) (.inr (10, mm_fw1f30 (.int 1))) (mm_zi 12288) [.inr (13, [])]))) 8 3000 rfl ?_
    refine mm_xk (S' := (137, [some (.ref 30), some (.int (xs 1)), some (.int (xs 2)), some (.int (xs 3)), some (.int (xs 4)), some (.int (xs 5)), some (.int (xs 6)), some (.int (xs 7)), some (.int (xs 8)), some (.int 0), none, none, none, none], [], (mm_fw1 (mm_zi 64) (.inr (10, mm_fw1f30 (.int 1))) (mm_zi 12288) [.inr (13, [])]))) 3 3000 rfl ?_
    exact mm_xfn rfl
  refine mm_xk (S' := (1092, [some (.ref 1000004), some (.ref 0), some (.ref 30), some (.ref 47), some (.int 9), some (.int 1), none], [], (mm_fw1 (mm_zi 64) (.inr (10, mm_fw1f30 (.int 1))) (mm_zi 12288) [.inr (13, [])]))) 6 3000 rfl ?_
  refine mm_xk (S' := (1096, [some (.ref 1000004), some (.ref 0), some (.ref 30), some (.ref 47), some (.int 9), some (.int 1), none], [.int 1], (mm_fw1 (mm_zi 64) (.inr (10, mm_fw1f30 (.int 1))) (mm_zi 12288) [.inr (13, [])]))) 8 3000 rfl ?_
  exact mm_xfn rfl
