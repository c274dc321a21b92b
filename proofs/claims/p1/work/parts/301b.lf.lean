set_option maxRecDepth 100000 in
set_option maxHeartbeats 4000000 in
theorem mm_lf1_9 (xs : Nat → Int32) (l1 : 0 ≤ (xs 1).toInt) (u1 : (xs 1).toInt ≤ 0) (l2 : 0 ≤ (xs 2).toInt) (u2 : (xs 2).toInt ≤ 7) (l3 : 0 ≤ (xs 3).toInt) (u3 : (xs 3).toInt ≤ 7) (l4 : 1 ≤ (xs 4).toInt) (l5 : 1 ≤ (xs 5).toInt) (l6 : 0 ≤ (xs 6).toInt) (u6 : (xs 6).toInt ≤ 255) (l7 : 256 ≤ (xs 7).toInt) (hc0 : mm_cmp .gt (xs 4) (8 - xs 2) = false) (hc1 : mm_cmp .gt (xs 5) (8 - xs 3) = false) : mm_Ok xs 192 := by
  refine mm_Ok_of (w' := ((mm_w0.set 30 (.inr (10, (mm_f30.set 0 (.int 2))))) ++ [.inr (11, [])])) (mm_szP 6 (mm_szS 63 mm_sz0 rfl) rfl) rfl rfl ?_
  refine mm_xk (S' := (244, [some (.ref 1000004), some (.ref 0), some (.ref 30), some (.ref 47), some (.int 0), none, none], [.int (xs 8), .int (xs 7), .int (xs 6), .int (xs 5), .int (xs 4), .int (xs 3), .int (xs 2), .int (xs 1), .ref 0], (mm_fw1 (mm_zi 64) (.inr (10, mm_fw1f30 (.int 0))) (mm_zi 12288) []))) 41 3000 rfl ?_
  refine mm_xcl (v := (some (.int 2))) (w1 := (mm_fw1 (mm_zi 64) (.inr (10, mm_fw1f30 (.int 0))) (mm_zi 12288) [.inr (11, [])])) rfl ?_ ?_
  · skip
    refine mm_xk (S' := (14, [some (.ref 0), some (.int (xs 1)), some (.int (xs 2)), some (.int (xs 3)), some (.int (xs 4)), some (.int (xs 5)), some (.int (xs 6)), some (.int (xs 7)), some (.int (xs 8)), none], [.int (xs 8), .int (xs 7), .int (xs 6), .int (xs 5), .int (xs 4), .int (xs 3), .int (xs 2), .int (xs 1), .ref 0], (mm_fw1 (mm_zi 64) (.inr (10, mm_fw1f30 (.int 0))) (mm_zi 12288) []))) 9 3000 rfl ?_
    refine mm_xct (x := 11) (hp := 24) (w1 := (mm_fw1 (mm_zi 64) (.inr (10, mm_fw1f30 (.int 0))) (mm_zi 12288) [.inr (11, [])])) rfl ?_ rfl ?_
    · skip
      refine mm_xk (S' := (7, [some (.ref 0), some (.int (xs 1)), some (.int (xs 2)), some (.int (xs 3)), some (.int (xs 4)), some (.int (xs 5)), some (.int (xs 6)), some (.int (xs 7)), some (.int (xs 8)), none, none, none, none, none, none], [.int (xs 3), .int (xs 2), .int (xs 1), .ref 1], (mm_fw1 (mm_zi 64) (.inr (10, mm_fw1f30 (.int 0))) (mm_zi 12288) []))) 5 3000 rfl ?_
      refine mm_xcl (v := (some (.int 1))) (w1 := (mm_fw1 (mm_zi 64) (.inr (10, mm_fw1f30 (.int 0))) (mm_zi 12288) [])) rfl ?_ ?_
      · skip
        refine mm_xk (S' := (1, [some (.ref 1), some (.int (xs 1)), some (.int (xs 2)), some (.int (xs 3))], [.int (xs 1)], (mm_fw1 (mm_zi 64) (.inr (10, mm_fw1f30 (.int 0))) (mm_zi 12288) []))) 1 3000 rfl ?_
        refine mm_xif1 rfl false (mm_lt0 (a := (xs 1).toInt) (b := 0) rfl rfl (by omega)) rfl ?_
        refine mm_xk (S' := (9, [some (.ref 1), some (.int (xs 1)), some (.int (xs 2)), some (.int (xs 3))], [.int 1, .int (xs 1)], (mm_fw1 (mm_zi 64) (.inr (10, mm_fw1f30 (.int 0))) (mm_zi 12288) []))) 3 3000 rfl ?_
        refine mm_xif2 rfl false (mm_ge0 (a := (xs 1).toInt) (b := 1) rfl rfl (by omega)) rfl ?_
        refine mm_xk (S' := (13, [some (.ref 1), some (.int (xs 1)), some (.int (xs 2)), some (.int (xs 3))], [.int (xs 2)], (mm_fw1 (mm_zi 64) (.inr (10, mm_fw1f30 (.int 0))) (mm_zi 12288) []))) 1 3000 rfl ?_
        refine mm_xif1 rfl false (mm_lt0 (a := (xs 2).toInt) (b := 0) rfl rfl (by omega)) rfl ?_
        refine mm_xk (S' := (21, [some (.ref 1), some (.int (xs 1)), some (.int (xs 2)), some (.int (xs 3))], [.int 8, .int (xs 2)], (mm_fw1 (mm_zi 64) (.inr (10, mm_fw1f30 (.int 0))) (mm_zi 12288) []))) 3 3000 rfl ?_
        refine mm_xif2 rfl false (mm_ge0 (a := (xs 2).toInt) (b := 8) rfl rfl (by omega)) rfl ?_
        refine mm_xk (S' := (25, [some (.ref 1), some (.int (xs 1)), some (.int (xs 2)), some (.int (xs 3))], [.int (xs 3)], (mm_fw1 (mm_zi 64) (.inr (10, mm_fw1f30 (.int 0))) (mm_zi 12288) []))) 1 3000 rfl ?_
        refine mm_xif1 rfl false (mm_lt0 (a := (xs 3).toInt) (b := 0) rfl rfl (by omega)) rfl ?_
        refine mm_xk (S' := (33, [some (.ref 1), some (.int (xs 1)), some (.int (xs 2)), some (.int (xs 3))], [.int 8, .int (xs 3)], (mm_fw1 (mm_zi 64) (.inr (10, mm_fw1f30 (.int 0))) (mm_zi 12288) []))) 3 3000 rfl ?_
        refine mm_xif2 rfl false (mm_ge0 (a := (xs 3).toInt) (b := 8) rfl rfl (by omega)) rfl ?_
        refine mm_xk (S' := (41, [some (.ref 1), some (.int (xs 1)), some (.int (xs 2)), some (.int (xs 3))], [.int 1], (mm_fw1 (mm_zi 64) (.inr (10, mm_fw1f30 (.int 0))) (mm_zi 12288) []))) 2 3000 rfl ?_
        exact mm_xfn rfl
      refine mm_xk (S' := (23, [some (.ref 0), some (.int (xs 1)), some (.int (xs 2)), some (.int (xs 3)), some (.int (xs 4)), some (.int (xs 5)), some (.int (xs 6)), some (.int (xs 7)), some (.int (xs 8)), none, none, none, none, none, none], [.int (xs 5), .int (xs 4), .int (xs 3), .int (xs 2), .ref 1], (mm_fw1 (mm_zi 64) (.inr (10, mm_fw1f30 (.int 0))) (mm_zi 12288) []))) 7 3000 rfl ?_
      refine mm_xcl (v := (some (.int 1))) (w1 := (mm_fw1 (mm_zi 64) (.inr (10, mm_fw1f30 (.int 0))) (mm_zi 12288) [])) rfl ?_ ?_
      · skip
        refine mm_xk (S' := (2, [some (.ref 1), some (.int (xs 2)), some (.int (xs 3)), some (.int (xs 4)), some (.int (xs 5))], [.int 1, .int (xs 4)], (mm_fw1 (mm_zi 64) (.inr (10, mm_fw1f30 (.int 0))) (mm_zi 12288) []))) 2 3000 rfl ?_
        refine mm_xif2 rfl false (mm_lt0 (a := (xs 4).toInt) (b := 1) rfl rfl (by omega)) rfl ?_
        refine mm_xk (S' := (12, [some (.ref 1), some (.int (xs 2)), some (.int (xs 3)), some (.int (xs 4)), some (.int (xs 5))], [.int (8 - xs 2), .int (xs 4)], (mm_fw1 (mm_zi 64) (.inr (10, mm_fw1f30 (.int 0))) (mm_zi 12288) []))) 5 3000 rfl ?_
        refine mm_xif2 rfl false hc0 rfl ?_
        refine mm_xk (S' := (18, [some (.ref 1), some (.int (xs 2)), some (.int (xs 3)), some (.int (xs 4)), some (.int (xs 5))], [.int 1, .int (xs 5)], (mm_fw1 (mm_zi 64) (.inr (10, mm_fw1f30 (.int 0))) (mm_zi 12288) []))) 2 3000 rfl ?_
        refine mm_xif2 rfl false (mm_lt0 (a := (xs 5).toInt) (b := 1) rfl rfl (by omega)) rfl ?_
        refine mm_xk (S' := (29, [some (.ref 1), some (.int (xs 2)), some (.int (xs 3)), some (.int (xs 4)), some (.int (xs 5))], [.int (8 - xs 3), .int (xs 5)], (mm_fw1 (mm_zi 64) (.inr (10, mm_fw1f30 (.int 0))) (mm_zi 12288) []))) 5 3000 rfl ?_
        refine mm_xif2 rfl false hc1 rfl ?_
        refine mm_xk (S' := (37, [some (.ref 1), some (.int (xs 2)), some (.int (xs 3)), some (.int (xs 4)), some (.int (xs 5))], [.int 1], (mm_fw1 (mm_zi 64) (.inr (10, mm_fw1f30 (.int 0))) (mm_zi 12288) []))) 2 3000 rfl ?_
        exact mm_xfn rfl
      refine mm_xk (S' := (48, [some (.ref 0), some (.int (xs 1)), some (.int (xs 2)), some (.int (xs 3)), some (.int (xs 4)), some (.int (xs 5)), some (.int (xs 6)), some (.int (xs 7)), some (.int (xs 8)), some (.int 255), none, none, none, none, none], [.int (xs 6)], (mm_fw1 (mm_zi 64) (.inr (10, mm_fw1f30 (.int 0))) (mm_zi 12288) []))) 6 3000 rfl ?_
      refine mm_xif1 rfl false (mm_lt0 (a := (xs 6).toInt) (b := 0) rfl rfl (by omega)) rfl ?_
      refine mm_xk (S' := (55, [some (.ref 0), some (.int (xs 1)), some (.int (xs 2)), some (.int (xs 3)), some (.int (xs 4)), some (.int (xs 5)), some (.int (xs 6)), some (.int (xs 7)), some (.int (xs 8)), some (.int 255), none, none, none, none, none], [.int 255, .int (xs 6)], (mm_fw1 (mm_zi 64) (.inr (10, mm_fw1f30 (.int 0))) (mm_zi 12288) []))) 2 3000 rfl ?_
      refine mm_xif2 rfl false (mm_gt0 (a := (xs 6).toInt) (b := 255) rfl rfl (by omega)) rfl ?_
      refine mm_xk (S' := (60, [some (.ref 0), some (.int (xs 1)), some (.int (xs 2)), some (.int (xs 3)), some (.int (xs 4)), some (.int (xs 5)), some (.int (xs 6)), some (.int (xs 7)), some (.int (xs 8)), some (.int 255), none, none, none, none, none], [.int (xs 7)], (mm_fw1 (mm_zi 64) (.inr (10, mm_fw1f30 (.int 0))) (mm_zi 12288) []))) 1 3000 rfl ?_
      refine mm_xif1 rfl false (mm_lt0 (a := (xs 7).toInt) (b := 0) rfl rfl (by omega)) rfl ?_
      refine mm_xk (S' := (67, [some (.ref 0), some (.int (xs 1)), some (.int (xs 2)), some (.int (xs 3)), some (.int (xs 4)), some (.int (xs 5)), some (.int (xs 6)), some (.int (xs 7)), some (.int (xs 8)), some (.int 255), none, none, none, none, none], [.int 255, .int (xs 7)], (mm_fw1 (mm_zi 64) (.inr (10, mm_fw1f30 (.int 0))) (mm_zi 12288) []))) 2 3000 rfl ?_
      refine mm_xif2 rfl true (mm_gt1 (a := (xs 7).toInt) (b := 255) rfl rfl (by omega)) rfl ?_
      exact mm_xfn rfl
    refine mm_xk (S' := (27, [some (.ref 0), some (.int (xs 1)), some (.int (xs 2)), some (.int (xs 3)), some (.int (xs 4)), some (.int (xs 5)), some (.int (xs 6)), some (.int (xs 7)), some (.int (xs 8)), some (.ref 48)], [.int 2], (mm_fw1 (mm_zi 64) (.inr (10, mm_fw1f30 (.int 0))) (mm_zi 12288) [.inr (11, [])]))) 2 3000 rfl ?_
    exact mm_xfn rfl
  refine mm_xk (S' := (301, [some (.ref 1000004), some (.ref 0), some (.ref 30), some (.ref 47), some (.int 0), some (.int 2), none], [.int (xs 8), .int (xs 7), .int (xs 6), .int (xs 5), .int (xs 4), .int (xs 3), .int (xs 2), .int (xs 1), .ref 30], (mm_fw1 (mm_zi 64) (.inr (10, mm_fw1f30 (.int 0))) (mm_zi 12288) [.inr (11, [])]))) 42 3000 rfl ?_
  refine mm_xcl (v := none) (w1 := (mm_fw1 (mm_zi 64) (.inr (10, mm_fw1f30 (.int 2))) (mm_zi 12288) [.inr (11, [])])) rfl ?_ ?_
  · skip
    refine mm_xk (S' := (1, [some (.ref 30), some (.int (xs 1)), some (.int (xs 2)), some (.int (xs 3)), some (.int (xs 4)), some (.int (xs 5)), some (.int (xs 6)), some (.int (xs 7)), some (.int (xs 8)), none, none, none, none, none], [.int (xs 1)], (mm_fw1 (mm_zi 64) (.inr (10, mm_fw1f30 (.int 0))) (mm_zi 12288) [.inr (11, [])]))) 1 3000 rfl ?_
    refine mm_xif1 rfl false (mm_lt0 (a := (xs 1).toInt) (b := 0) rfl rfl (by omega)) rfl ?_
    refine mm_xk (S' := (9, [some (.ref 30), some (.int (xs 1)), some (.int (xs 2)), some (.int (xs 3)), some (.int (xs 4)), some (.int (xs 5)), some (.int (xs 6)), some (.int (xs 7)), some (.int (xs 8)), none, none, none, none, none], [.int 1, .int (xs 1)], (mm_fw1 (mm_zi 64) (.inr (10, mm_fw1f30 (.int 0))) (mm_zi 12288) [.inr (11, [])]))) 3 3000 rfl ?_
    refine mm_xif2 rfl false (mm_ge0 (a := (xs 1).toInt) (b := 1) rfl rfl (by omega)) rfl ?_
    refine mm_xk (S' := (14, [some (.ref 30), some (.int (xs 1)), some (.int (xs 2)), some (.int (xs 3)), some (.int (xs 4)), some (.int (xs 5)), some (.int (xs 6)), some (.int (xs 7)), some (.int (xs 8)), none, none, none, none, none], [.int (xs 4)], (mm_fw1 (mm_zi 64) (.inr (10, mm_fw1f30 (.int 0))) (mm_zi 12288) [.inr (11, [])]))) 1 3000 rfl ?_
    refine mm_xif1 rfl false (mm_le0 (a := (xs 4).toInt) (b := 0) rfl rfl (by omega)) rfl ?_
    refine mm_xk (S' := (19, [some (.ref 30), some (.int (xs 1)), some (.int (xs 2)), some (.int (xs 3)), some (.int (xs 4)), some (.int (xs 5)), some (.int (xs 6)), some (.int (xs 7)), some (.int (xs 8)), none, none, none, none, none], [.int (xs 5)], (mm_fw1 (mm_zi 64) (.inr (10, mm_fw1f30 (.int 0))) (mm_zi 12288) [.inr (11, [])]))) 1 3000 rfl ?_
    refine mm_xif1 rfl false (mm_le0 (a := (xs 5).toInt) (b := 0) rfl rfl (by omega)) rfl ?_
    refine mm_xk (S' := (23, [some (.ref 30), some (.int (xs 1)), some (.int (xs 2)), some (.int (xs 3)), some (.int (xs 4)), some (.int (xs 5)), some (.int (xs 6)), some (.int (xs 7)), some (.int (xs 8)), none, none, none, none, none], [.int (xs 2)], (mm_fw1 (mm_zi 64) (.inr (10, mm_fw1f30 (.int 0))) (mm_zi 12288) [.inr (11, [])]))) 1 3000 rfl ?_
    refine mm_xif1 rfl false (mm_lt0 (a := (xs 2).toInt) (b := 0) rfl rfl (by omega)) rfl ?_
    refine mm_xk (S' := (27, [some (.ref 30), some (.int (xs 1)), some (.int (xs 2)), some (.int (xs 3)), some (.int (xs 4)), some (.int (xs 5)), some (.int (xs 6)), some (.int (xs 7)), some (.int (xs 8)), none, none, none, none, none], [.int (xs 3)], (mm_fw1 (mm_zi 64) (.inr (10, mm_fw1f30 (.int 0))) (mm_zi 12288) [.inr (11, [])]))) 1 3000 rfl ?_
    refine mm_xif1 rfl false (mm_lt0 (a := (xs 3).toInt) (b := 0) rfl rfl (by omega)) rfl ?_
    refine mm_xk (S' := (35, [some (.ref 30), some (.int (xs 1)), some (.int (xs 2)), some (.int (xs 3)), some (.int (xs 4)), some (.int (xs 5)), some (.int (xs 6)), some (.int (xs 7)), some (.int (xs 8)), none, none, none, none, none], [.int 8, .int (xs 2)], (mm_fw1 (mm_zi 64) (.inr (10, mm_fw1f30 (.int 0))) (mm_zi 12288) [.inr (11, [])]))) 3 3000 rfl ?_
    refine mm_xif2 rfl false (mm_ge0 (a := (xs 2).toInt) (b := 8) rfl rfl (by omega)) rfl ?_
    refine mm_xk (S' := (43, [some (.ref 30), some (.int (xs 1)), some (.int (xs 2)), some (.int (xs 3)), some (.int (xs 4)), some (.int (xs 5)), some (.int (xs 6)), some (.int (xs 7)), some (.int (xs 8)), none, none, none, none, none], [.int 8, .int (xs 3)], (mm_fw1 (mm_zi 64) (.inr (10, mm_fw1f30 (.int 0))) (mm_zi 12288) [.inr (11, [])]))) 3 3000 rfl ?_
    refine mm_xif2 rfl false (mm_ge0 (a := (xs 3).toInt) (b := 8) rfl rfl (by omega)) rfl ?_
    refine mm_xk (S' := (54, [some (.ref 30), some (.int (xs 1)), some (.int (xs 2)), some (.int (xs 3)), some (.int (xs 4)), some (.int (xs 5)), some (.int (xs 6)), some (.int (xs 7)), some (.int (xs 8)), none, none, none, none, none], [.int (8 - xs 2), .int (xs 4)], (mm_fw1 (mm_zi 64) (.inr (10, mm_fw1f30 (.int 0))) (mm_zi 12288) [.inr (11, [])]))) 5 3000 rfl ?_
    refine mm_xif2 rfl false hc0 rfl ?_
    refine mm_xk (S' := (65, [some (.ref 30), some (.int (xs 1)), some (.int (xs 2)), some (.int (xs 3)), some (.int (xs 4)), some (.int (xs 5)), some (.int (xs 6)), some (.int (xs 7)), some (.int (xs 8)), none, none, none, none, none], [.int (8 - xs 3), .int (xs 5)], (mm_fw1 (mm_zi 64) (.inr (10, mm_fw1f30 (.int 0))) (mm_zi 12288) [.inr (11, [])]))) 5 3000 rfl ?_
    refine mm_xif2 rfl false hc1 rfl ?_
    refine mm_xk (S' := (92, [some (.ref 30), some (.int (xs 1)), some (.int (xs 2)), some (.int (xs 3)), some (.int (xs 4)), some (.int (xs 5)), some (.int (xs 6)), some (.int (xs 7)), some (.int (xs 8)), some (.int 1), none, none, none, none], [.int 255, .int 0, .int (xs 6), .ref 30], (mm_fw1 (mm_zi 64) (.inr (10, mm_fw1f30 (.int 0))) (mm_zi 12288) [.inr (11, [])]))) 10 3000 rfl ?_
    refine mm_xcl (v := (some (.int 1))) (w1 := (mm_fw1 (mm_zi 64) (.inr (10, mm_fw1f30 (.int 0))) (mm_zi 12288) [.inr (11, [])])) rfl ?_ ?_
    · skip
      refine mm_xk (S' := (2, [some (.int (xs 6)), some (.int 0), some (.int 255)], [.int 0, .int (xs 6)], (mm_fw1 (mm_zi 64) (.inr (10, mm_fw1f30 (.int 0))) (mm_zi 12288) [.inr (11, [])]))) 2 3000 rfl ?_
      refine mm_xif2 rfl false (mm_lt0 (a := (xs 6).toInt) (b := 0) rfl rfl (by omega)) rfl ?_
      refine mm_xk (S' := (7, [some (.int (xs 6)), some (.int 0), some (.int 255)], [.int 255, .int (xs 6)], (mm_fw1 (mm_zi 64) (.inr (10, mm_fw1f30 (.int 0))) (mm_zi 12288) [.inr (11, [])]))) 2 3000 rfl ?_
      refine mm_xif2 rfl false (mm_gt0 (a := (xs 6).toInt) (b := 255) rfl rfl (by omega)) rfl ?_
      refine mm_xk (S' := (15, [some (.int (xs 6)), some (.int 0), some (.int 255)], [.int 1], (mm_fw1 (mm_zi 64) (.inr (10, mm_fw1f30 (.int 0))) (mm_zi 12288) [.inr (11, [])]))) 2 3000 rfl ?_
      exact mm_xfn rfl
    refine mm_xk (S' := (105, [some (.ref 30), some (.int (xs 1)), some (.int (xs 2)), some (.int (xs 3)), some (.int (xs 4)), some (.int (xs 5)), some (.int (xs 6)), some (.int (xs 7)), some (.int (xs 8)), some (.int 1), none, none, none, none], [.int 255, .int 0, .int (xs 7), .ref 30], (mm_fw1 (mm_zi 64) (.inr (10, mm_fw1f30 (.int 0))) (mm_zi 12288) [.inr (11, [])]))) 5 3000 rfl ?_
    refine mm_xcl (v := (some (.int 0))) (w1 := (mm_fw1 (mm_zi 64) (.inr (10, mm_fw1f30 (.int 0))) (mm_zi 12288) [.inr (11, [])])) rfl ?_ ?_
    · skip
      refine mm_xk (S' := (2, [some (.int (xs 7)), some (.int 0), some (.int 255)], [.int 0, .int (xs 7)], (mm_fw1 (mm_zi 64) (.inr (10, mm_fw1f30 (.int 0))) (mm_zi 12288) [.inr (11, [])]))) 2 3000 rfl ?_
      refine mm_xif2 rfl false (mm_lt0 (a := (xs 7).toInt) (b := 0) rfl rfl (by omega)) rfl ?_
      refine mm_xk (S' := (7, [some (.int (xs 7)), some (.int 0), some (.int 255)], [.int 255, .int (xs 7)], (mm_fw1 (mm_zi 64) (.inr (10, mm_fw1f30 (.int 0))) (mm_zi 12288) [.inr (11, [])]))) 2 3000 rfl ?_
      refine mm_xif2 rfl true (mm_gt1 (a := (xs 7).toInt) (b := 255) rfl rfl (by omega)) rfl ?_
      refine mm_xk (S' := (15, [some (.int (xs 7)), some (.int 0), some (.int 255)], [.int 0], (mm_fw1 (mm_zi 64) (.inr (10, mm_fw1f30 (.int 0))) (mm_zi 12288) [.inr (11, [])]))) 1 3000 rfl ?_
      exact mm_xfn rfl
    refine mm_xk (S' := (130, [some (.ref 30), some (.int (xs 1)), some (.int (xs 2)), some (.int (xs 3)), some (.int (xs 4)), some (.int (xs 5)), some (.int (xs 6)), some (.int (xs 7)), some (.int (xs 8)), some (.int 1), none, none, none, none], [], (mm_fw1 (mm_zi 64) (.inr (10, mm_fw1f30 (.int 2))) (mm_zi 12288) [.inr (11, [])]))) 3 3000 rfl ?_
    refine mm_xk (S' := (137, [some (.ref 30), some (.int (xs 1)), some (.int (xs 2)), some (.int (xs 3)), some (.int (xs 4)), some (.int (xs 5)), some (.int (xs 6)), some (.int (xs 7)), some (.int (xs 8)), some (.int 1), none, none, none, none], [], (mm_fw1 (mm_zi 64) (.inr (10, mm_fw1f30 (.int 2))) (mm_zi 12288) [.inr (11, [])]))) 3 3000 rfl ?_
    exact mm_xfn rfl
  refine mm_xk (S' := (1092, [some (.ref 1000004), some (.ref 0), some (.ref 30), some (.ref 47), some (.int 9), some (.int 2), none], [], (mm_fw1 (mm_zi 64) (.inr (10, mm_fw1f30 (.int 2))) (mm_zi 12288) [.inr (11, [])]))) 6 3000 rfl ?_
  refine mm_xk (S' := (1096, [some (.ref 1000004), some (.ref 0), some (.ref 30), some (.ref 47), some (.int 9), some (.int 2), none], [.int 1], (mm_fw1 (mm_zi 64) (.inr (10, mm_fw1f30 (.int 2))) (mm_zi 12288) [.inr (11, [])]))) 8 3000 rfl ?_
  exact mm_xfn rfl
set_option maxRecDepth 100000 in
set_option maxHeartbeats 4000000 in
theorem mm_lf1_10 (xs : Nat → Int32) (l1 : 0 ≤ (xs 1).toInt) (u1 : (xs 1).toInt ≤ 0) (l2 : 0 ≤ (xs 2).toInt) (u2 : (xs 2).toInt ≤ 7) (l3 : 0 ≤ (xs 3).toInt) (u3 : (xs 3).toInt ≤ 7) (l4 : 1 ≤ (xs 4).toInt) (l5 : 1 ≤ (xs 5).toInt) (l6 : 0 ≤ (xs 6).toInt) (u6 : (xs 6).toInt ≤ 255) (l7 : 0 ≤ (xs 7).toInt) (u7 : (xs 7).toInt ≤ 255) (l8 : 65536 ≤ (xs 8).toInt) (hc0 : mm_cmp .gt (xs 4) (8 - xs 2) = false) (hc1 : mm_cmp .gt (xs 5) (8 - xs 3) = false) : mm_Ok xs 192 := by
  refine mm_Ok_of (w' := ((mm_w0.set 30 (.inr (10, (mm_f30.set 0 (.int 2))))) ++ [.inr (11, [])])) (mm_szP 6 (mm_szS 63 mm_sz0 rfl) rfl) rfl rfl ?_
  refine mm_xk (S' := (244, [some (.ref 1000004), some (.ref 0), some (.ref 30), some (.ref 47), some (.int 0), none, none], [.int (xs 8), .int (xs 7), .int (xs 6), .int (xs 5), .int (xs 4), .int (xs 3), .int (xs 2), .int (xs 1), .ref 0], (mm_fw1 (mm_zi 64) (.inr (10, mm_fw1f30 (.int 0))) (mm_zi 12288) []))) 41 3000 rfl ?_
  refine mm_xcl (v := (some (.int 2))) (w1 := (mm_fw1 (mm_zi 64) (.inr (10, mm_fw1f30 (.int 0))) (mm_zi 12288) [.inr (11, [])])) rfl ?_ ?_
  · skip
    refine mm_xk (S' := (14, [some (.ref 0), some (.int (xs 1)), some (.int (xs 2)), some (.int (xs 3)), some (.int (xs 4)), some (.int (xs 5)), some (.int (xs 6)), some (.int (xs 7)), some (.int (xs 8)), none], [.int (xs 8), .int (xs 7), .int (xs 6), .int (xs 5), .int (xs 4), .int (xs 3), .int (xs 2), .int (xs 1), .ref 0], (mm_fw1 (mm_zi 64) (.inr (10, mm_fw1f30 (.int 0))) (mm_zi 12288) []))) 9 3000 rfl ?_
    refine mm_xct (x := 11) (hp := 24) (w1 := (mm_fw1 (mm_zi 64) (.inr (10, mm_fw1f30 (.int 0))) (mm_zi 12288) [.inr (11, [])])) rfl ?_ rfl ?_
    · skip
      refine mm_xk (S' := (7, [some (.ref 0), some (.int (xs 1)), some (.int (xs 2)), some (.int (xs 3)), some (.int (xs 4)), some (.int (xs 5)), some (.int (xs 6)), some (.int (xs 7)), some (.int (xs 8)), none, none, none, none, none, none], [.int (xs 3), .int (xs 2), .int (xs 1), .ref 1], (mm_fw1 (mm_zi 64) (.inr (10, mm_fw1f30 (.int 0))) (mm_zi 12288) []))) 5 3000 rfl ?_
      refine mm_xcl (v := (some (.int 1))) (w1 := (mm_fw1 (mm_zi 64) (.inr (10, mm_fw1f30 (.int 0))) (mm_zi 12288) [])) rfl ?_ ?_
      · skip
        refine mm_xk (S' := (1, [some (.ref 1), some (.int (xs 1)), some (.int (xs 2)), some (.int (xs 3))], [.int (xs 1)], (mm_fw1 (mm_zi 64) (.inr (10, mm_fw1f30 (.int 0))) (mm_zi 12288) []))) 1 3000 rfl ?_
        refine mm_xif1 rfl false (mm_lt0 (a := (xs 1).toInt) (b := 0) rfl rfl (by omega)) rfl ?_
        refine mm_xk (S' := (9, [some (.ref 1), some (.int (xs 1)), some (.int (xs 2)), some (.int (xs 3))], [.int 1, .int (xs 1)], (mm_fw1 (mm_zi 64) (.inr (10, mm_fw1f30 (.int 0))) (mm_zi 12288) []))) 3 3000 rfl ?_
        refine mm_xif2 rfl false (mm_ge0 (a := (xs 1).toInt) (b := 1) rfl rfl (by omega)) rfl ?_
        refine mm_xk (S' := (13, [some (.ref 1), some (.int (xs 1)), some (.int (xs 2)), some (.int (xs 3))], [.int (xs 2)], (mm_fw1 (mm_zi 64) (.inr (10, mm_fw1f30 (.int 0))) (mm_zi 12288) []))) 1 3000 rfl ?_
        refine mm_xif1 rfl false (mm_lt0 (a := (xs 2).toInt) (b := 0) rfl rfl (by omega)) rfl ?_
        refine mm_xk (S' := (21, [some (.ref 1), some (.int (xs 1)), some (.int (xs 2)), some (.int (xs 3))], [.int 8, .int (xs 2)], (mm_fw1 (mm_zi 64) (.inr (10, mm_fw1f30 (.int 0))) (mm_zi 12288) []))) 3 3000 rfl ?_
        refine mm_xif2 rfl false (mm_ge0 (a := (xs 2).toInt) (b := 8) rfl rfl (by omega)) rfl ?_
        refine mm_xk (S' := (25, [some (.ref 1), some (.int (xs 1)), some (.int (xs 2)), some (.int (xs 3))], [.int (xs 3)], (mm_fw1 (mm_zi 64) (.inr (10, mm_fw1f30 (.int 0))) (mm_zi 12288) []))) 1 3000 rfl ?_
        refine mm_xif1 rfl false (mm_lt0 (a := (xs 3).toInt) (b := 0) rfl rfl (by omega)) rfl ?_
        refine mm_xk (S' := (33, [some (.ref 1), some (.int (xs 1)), some (.int (xs 2)), some (.int (xs 3))], [.int 8, .int (xs 3)], (mm_fw1 (mm_zi 64) (.inr (10, mm_fw1f30 (.int 0))) (mm_zi 12288) []))) 3 3000 rfl ?_
        refine mm_xif2 rfl false (mm_ge0 (a := (xs 3).toInt) (b := 8) rfl rfl (by omega)) rfl ?_
        refine mm_xk (S' := (41, [some (.ref 1), some (.int (xs 1)), some (.int (xs 2)), some (.int (xs 3))], [.int 1], (mm_fw1 (mm_zi 64) (.inr (10, mm_fw1f30 (.int 0))) (mm_zi 12288) []))) 2 3000 rfl ?_
        exact mm_xfn rfl
      refine mm_xk (S' := (23, [some (.ref 0), some (.int (xs 1)), some (.int (xs 2)), some (.int (xs 3)), some (.int (xs 4)), some (.int (xs 5)), some (.int (xs 6)), some (.int (xs 7)), some (.int (xs 8)), none, none, none, none, none, none], [.int (xs 5), .int (xs 4), .int (xs 3), .int (xs 2), .ref 1], (mm_fw1 (mm_zi 64) (.inr (10, mm_fw1f30 (.int 0))) (mm_zi 12288) []))) 7 3000 rfl ?_
      refine mm_xcl (v := (some (.int 1))) (w1 := (mm_fw1 (mm_zi 64) (.inr (10, mm_fw1f30 (.int 0))) (mm_zi 12288) [])) rfl ?_ ?_
      · skip
        refine mm_xk (S' := (2, [some (.ref 1), some (.int (xs 2)), some (.int (xs 3)), some (.int (xs 4)), some (.int (xs 5))], [.int 1, .int (xs 4)], (mm_fw1 (mm_zi 64) (.inr (10, mm_fw1f30 (.int 0))) (mm_zi 12288) []))) 2 3000 rfl ?_
        refine mm_xif2 rfl false (mm_lt0 (a := (xs 4).toInt) (b := 1) rfl rfl (by omega)) rfl ?_
        refine mm_xk (S' := (12, [some (.ref 1), some (.int (xs 2)), some (.int (xs 3)), some (.int (xs 4)), some (.int (xs 5))], [.int (8 - xs 2), .int (xs 4)], (mm_fw1 (mm_zi 64) (.inr (10, mm_fw1f30 (.int 0))) (mm_zi 12288) []))) 5 3000 rfl ?_
        refine mm_xif2 rfl false hc0 rfl ?_
        refine mm_xk (S' := (18, [some (.ref 1), some (.int (xs 2)), some (.int (xs 3)), some (.int (xs 4)), some (.int (xs 5))], [.int 1, .int (xs 5)], (mm_fw1 (mm_zi 64) (.inr (10, mm_fw1f30 (.int 0))) (mm_zi 12288) []))) 2 3000 rfl ?_
        refine mm_xif2 rfl false (mm_lt0 (a := (xs 5).toInt) (b := 1) rfl rfl (by omega)) rfl ?_
        refine mm_xk (S' := (29, [some (.ref 1), some (.int (xs 2)), some (.int (xs 3)), some (.int (xs 4)), some (.int (xs 5))], [.int (8 - xs 3), .int (xs 5)], (mm_fw1 (mm_zi 64) (.inr (10, mm_fw1f30 (.int 0))) (mm_zi 12288) []))) 5 3000 rfl ?_
        refine mm_xif2 rfl false hc1 rfl ?_
        refine mm_xk (S' := (37, [some (.ref 1), some (.int (xs 2)), some (.int (xs 3)), some (.int (xs 4)), some (.int (xs 5))], [.int 1], (mm_fw1 (mm_zi 64) (.inr (10, mm_fw1f30 (.int 0))) (mm_zi 12288) []))) 2 3000 rfl ?_
        exact mm_xfn rfl
      refine mm_xk (S' := (48, [some (.ref 0), some (.int (xs 1)), some (.int (xs 2)), some (.int (xs 3)), some (.int (xs 4)), some (.int (xs 5)), some (.int (xs 6)), some (.int (xs 7)), some (.int (xs 8)), some (.int 255), none, none, none, none, none], [.int (xs 6)], (mm_fw1 (mm_zi 64) (.inr (10, mm_fw1f30 (.int 0))) (mm_zi 12288) []))) 6 3000 rfl ?_
      refine mm_xif1 rfl false (mm_lt0 (a := (xs 6).toInt) (b := 0) rfl rfl (by omega)) rfl ?_
      refine mm_xk (S' := (55, [some (.ref 0), some (.int (xs 1)), some (.int (xs 2)), some (.int (xs 3)), some (.int (xs 4)), some (.int (xs 5)), some (.int (xs 6)), some (.int (xs 7)), some (.int (xs 8)), some (.int 255), none, none, none, none, none], [.int 255, .int (xs 6)], (mm_fw1 (mm_zi 64) (.inr (10, mm_fw1f30 (.int 0))) (mm_zi 12288) []))) 2 3000 rfl ?_
      refine mm_xif2 rfl false (mm_gt0 (a := (xs 6).toInt) (b := 255) rfl rfl (by omega)) rfl ?_
      refine mm_xk (S' := (60, [some (.ref 0), some (.int (xs 1)), some (.int (xs 2)), some (.int (xs 3)), some (.int (xs 4)), some (.int (xs 5)), some (.int (xs 6)), some (.int (xs 7)), some (.int (xs 8)), some (.int 255), none, none, none, none, none], [.int (xs 7)], (mm_fw1 (mm_zi 64) (.inr (10, mm_fw1f30 (.int 0))) (mm_zi 12288) []))) 1 3000 rfl ?_
      refine mm_xif1 rfl false (mm_lt0 (a := (xs 7).toInt) (b := 0) rfl rfl (by omega)) rfl ?_
      refine mm_xk (S' := (67, [some (.ref 0), some (.int (xs 1)), some (.int (xs 2)), some (.int (xs 3)), some (.int (xs 4)), some (.int (xs 5)), some (.int (xs 6)), some (.int (xs 7)), some (.int (xs 8)), some (.int 255), none, none, none, none, none], [.int 255, .int (xs 7)], (mm_fw1 (mm_zi 64) (.inr (10, mm_fw1f30 (.int 0))) (mm_zi 12288) []))) 2 3000 rfl ?_
      refine mm_xif2 rfl false (mm_gt0 (a := (xs 7).toInt) (b := 255) rfl rfl (by omega)) rfl ?_
      refine mm_xk (S' := (72, [some (.ref 0), some (.int (xs 1)), some (.int (xs 2)), some (.int (xs 3)), some (.int (xs 4)), some (.int (xs 5)), some (.int (xs 6)), some (.int (xs 7)), some (.int (xs 8)), some (.int 255), none, none, none, none, none], [.int (xs 8)], (mm_fw1 (mm_zi 64) (.inr (10, mm_fw1f30 (.int 0))) (mm_zi 12288) []))) 1 3000 rfl ?_
      refine mm_xif1 rfl false (mm_lt0 (a := (xs 8).toInt) (b := 0) rfl rfl (by omega)) rfl ?_
      refine mm_xk (S' := (79, [some (.ref 0), some (.int (xs 1)), some (.int (xs 2)), some (.int (xs 3)), some (.int (xs 4)), some (.int (xs 5)), some (.int (xs 6)), some (.int (xs 7)), some (.int (xs 8)), some (.int 255), none, none, none, none, none], [.int 65535, .int (xs 8)], (mm_fw1 (mm_zi 64) (.inr (10, mm_fw1f30 (.int 0))) (mm_zi 12288) []))) 2 3000 rfl ?_
      refine mm_xif2 rfl false (mm_le0 (a := (xs 8).toInt) (b := 65535) rfl rfl (by omega)) rfl ?_
      exact mm_xfn rfl
    refine mm_xk (S' := (27, [some (.ref 0), some (.int (xs 1)), some (.int (xs 2)), some (.int (xs 3)), some (.int (xs 4)), some (.int (xs 5)), some (.int (xs 6)), some (.int (xs 7)), some (.int (xs 8)), some (.ref 48)], [.int 2], (mm_fw1 (mm_zi 64) (.inr (10, mm_fw1f30 (.int 0))) (mm_zi 12288) [.inr (11, [])]))) 2 3000 rfl ?_
    exact mm_xfn rfl
  refine mm_xk (S' := (301, [some (.ref 1000004), some (.ref 0), some (.ref 30), some (.ref 47), some (.int 0), some (.int 2), none], [.int (xs 8), .int (xs 7), .int (xs 6), .int (xs 5), .int (xs 4), .int (xs 3), .int (xs 2), .int (xs 1), .ref 30], (mm_fw1 (mm_zi 64) (.inr (10, mm_fw1f30 (.int 0))) (mm_zi 12288) [.inr (11, [])]))) 42 3000 rfl ?_
  refine mm_xcl (v := none) (w1 := (mm_fw1 (mm_zi 64) (.inr (10, mm_fw1f30 (.int 2))) (mm_zi 12288) [.inr (11, [])])) rfl ?_ ?_
  · skip
    refine mm_xk (S' := (1, [some (.ref 30), some (.int (xs 1)), some (.int (xs 2)), some (.int (xs 3)), some (.int (xs 4)), some (.int (xs 5)), some (.int (xs 6)), some (.int (xs 7)), some (.int (xs 8)), none, none, none, none, none], [.int (xs 1)], (mm_fw1 (mm_zi 64) (.inr (10, mm_fw1f30 (.int 0))) (mm_zi 12288) [.inr (11, [])]))) 1 3000 rfl ?_
    refine mm_xif1 rfl false (mm_lt0 (a := (xs 1).toInt) (b := 0) rfl rfl (by omega)) rfl ?_
    refine mm_xk (S' := (9, [some (.ref 30), some (.int (xs 1)), some (.int (xs 2)), some (.int (xs 3)), some (.int (xs 4)), some (.int (xs 5)), some (.int (xs 6)), some (.int (xs 7)), some (.int (xs 8)), none, none, none, none, none], [.int 1, .int (xs 1)], (mm_fw1 (mm_zi 64) (.inr (10, mm_fw1f30 (.int 0))) (mm_zi 12288) [.inr (11, [])]))) 3 3000 rfl ?_
    refine mm_xif2 rfl false (mm_ge0 (a := (xs 1).toInt) (b := 1) rfl rfl (by omega)) rfl ?_
    refine mm_xk (S' := (14, [some (.ref 30), some (.int (xs 1)), some (.int (xs 2)), some (.int (xs 3)), some (.int (xs 4)), some (.int (xs 5)), some (.int (xs 6)), some (.int (xs 7)), some (.int (xs 8)), none, none, none, none, none], [.int (xs 4)], (mm_fw1 (mm_zi 64) (.inr (10, mm_fw1f30 (.int 0))) (mm_zi 12288) [.inr (11, [])]))) 1 3000 rfl ?_
    refine mm_xif1 rfl false (mm_le0 (a := (xs 4).toInt) (b := 0) rfl rfl (by omega)) rfl ?_
    refine mm_xk (S' := (19, [some (.ref 30), some (.int (xs 1)), some (.int (xs 2)), some (.int (xs 3)), some (.int (xs 4)), some (.int (xs 5)), some (.int (xs 6)), some (.int (xs 7)), some (.int (xs 8)), none, none, none, none, none], [.int (xs 5)], (mm_fw1 (mm_zi 64) (.inr (10, mm_fw1f30 (.int 0))) (mm_zi 12288) [.inr (11, [])]))) 1 3000 rfl ?_
    refine mm_xif1 rfl false (mm_le0 (a := (xs 5).toInt) (b := 0) rfl rfl (by omega)) rfl ?_
    refine mm_xk (S' := (23, [some (.ref 30), some (.int (xs 1)), some (.int (xs 2)), some (.int (xs 3)), some (.int (xs 4)), some (.int (xs 5)), some (.int (xs 6)), some (.int (xs 7)), some (.int (xs 8)), none, none, none, none, none], [.int (xs 2)], (mm_fw1 (mm_zi 64) (.inr (10, mm_fw1f30 (.int 0))) (mm_zi 12288) [.inr (11, [])]))) 1 3000 rfl ?_
    refine mm_xif1 rfl false (mm_lt0 (a := (xs 2).toInt) (b := 0) rfl rfl (by omega)) rfl ?_
    refine mm_xk (S' := (27, [some (.ref 30), some (.int (xs 1)), some (.int (xs 2)), some (.int (xs 3)), some (.int (xs 4)), some (.int (xs 5)), some (.int (xs 6)), some (.int (xs 7)), some (.int (xs 8)), none, none, none, none, none], [.int (xs 3)], (mm_fw1 (mm_zi 64) (.inr (10, mm_fw1f30 (.int 0))) (mm_zi 12288) [.inr (11, [])]))) 1 3000 rfl ?_
    refine mm_xif1 rfl false (mm_lt0 (a := (xs 3).toInt) (b := 0) rfl rfl (by omega)) rfl ?_
    refine mm_xk (S' := (35, [some (.ref 30), some (.int (xs 1)), some (.int (xs 2)), some (.int (xs 3)), some (.int (xs 4)), some (.int (xs 5)), some (.int (xs 6)), some (.int (xs 7)), some (.int (xs 8)), none, none, none, none, none], [.int 8, .int (xs 2)], (mm_fw1 (mm_zi 64) (.inr (10, mm_fw1f30 (.int 0))) (mm_zi 12288) [.inr (11, [])]))) 3 3000 rfl ?_
    refine mm_xif2 rfl false (mm_ge0 (a := (xs 2).toInt) (b := 8) rfl rfl (by omega)) rfl ?_
    refine mm_xk (S' := (43, [some (.ref 30), some (.int (xs 1)), some (.int (xs 2)), some (.int (xs 3)), some (.int (xs 4)), some (.int (xs 5)), some (.int (xs 6)), some (.int (xs 7)), some (.int (xs 8)), none, none, none, none, none], [.int 8, .int (xs 3)], (mm_fw1 (mm_zi 64) (.inr (10, mm_fw1f30 (.int 0))) (mm_zi 12288) [.inr (11, [])]))) 3 3000 rfl ?_
    refine mm_xif2 rfl false (mm_ge0 (a := (xs 3).toInt) (b := 8) rfl rfl (by omega)) rfl ?_
    refine mm_xk (S' := (54, [some (.ref 30), some (.int (xs 1)), some (.int (xs 2)), some (.int (xs 3)), some (.int (xs 4)), some (.int (xs 5)), some (.int (xs 6)), some (.int (xs 7)), some (.int (xs 8)), none, none, none, none, none], [.int (8 - xs 2), .int (xs 4)], (mm_fw1 (mm_zi 64) (.inr (10, mm_fw1f30 (.int 0))) (mm_zi 12288) [.inr (11, [])]))) 5 3000 rfl ?_
    refine mm_xif2 rfl false hc0 rfl ?_
    refine mm_xk (S' := (65, [some (.ref 30), some (.int (xs 1)), some (.int (xs 2)), some (.int (xs 3)), some (.int (xs 4)), some (.int (xs 5)), some (.int (xs 6)), some (.int (xs 7)), some (.int (xs 8)), none, none, none, none, none], [.int (8 - xs 3), .int (xs 5)], (mm_fw1 (mm_zi 64) (.inr (10, mm_fw1f30 (.int 0))) (mm_zi 12288) [.inr (11, [])]))) 5 3000 rfl ?_
    refine mm_xif2 rfl false hc1 rfl ?_
    refine mm_xk (S' := (92, [some (.ref 30), some (.int (xs 1)), some (.int (xs 2)), some (.int (xs 3)), some (.int (xs 4)), some (.int (xs 5)), some (.int (xs 6)), some (.int (xs 7)), some (.int (xs 8)), some (.int 1), none, none, none, none], [.int 255, .int 0, .int (xs 6), .ref 30], (mm_fw1 (mm_zi 64) (.inr (10, mm_fw1f30 (.int 0))) (mm_zi 12288) [.inr (11, [])]))) 10 3000 rfl ?_
    refine mm_xcl (v := (some (.int 1))) (w1 := (mm_fw1 (mm_zi 64) (.inr (10, mm_fw1f30 (.int 0))) (mm_zi 12288) [.inr (11, [])])) rfl ?_ ?_
    · skip
      refine mm_xk (S' := (2, [some (.int (xs 6)), some (.int 0), some (.int 255)], [.int 0, .int (xs 6)], (mm_fw1 (mm_zi 64) (.inr (10, mm_fw1f30 (.int 0))) (mm_zi 12288) [.inr (11, [])]))) 2 3000 rfl ?_
      refine mm_xif2 rfl false (mm_lt0 (a := (xs 6).toInt) (b := 0) rfl rfl (by omega)) rfl ?_
      refine mm_xk (S' := (7, [some (.int (xs 6)), some (.int 0), some (.int 255)], [.int 255, .int (xs 6)], (mm_fw1 (mm_zi 64) (.inr (10, mm_fw1f30 (.int 0))) (mm_zi 12288) [.inr (11, [])]))) 2 3000 rfl ?_
      refine mm_xif2 rfl false (mm_gt0 (a := (xs 6).toInt) (b := 255) rfl rfl (by omega)) rfl ?_
      refine mm_xk (S' := (15, [some (.int (xs 6)), some (.int 0), some (.int 255)], [.int 1], (mm_fw1 (mm_zi 64) (.inr (10, mm_fw1f30 (.int 0))) (mm_zi 12288) [.inr (11, [])]))) 2 3000 rfl ?_
      exact mm_xfn rfl
    refine mm_xk (S' := (105, [some (.ref 30), some (.int (xs 1)), some (.int (xs 2)), some (.int (xs 3)), some (.int (xs 4)), some (.int (xs 5)), some (.int (xs 6)), some (.int (xs 7)), some (.int (xs 8)), some (.int 1), none, none, none, none], [.int 255, .int 0, .int (xs 7), .ref 30], (mm_fw1 (mm_zi 64) (.inr (10, mm_fw1f30 (.int 0))) (mm_zi 12288) [.inr (11, [])]))) 5 3000 rfl ?_
    refine mm_xcl (v := (some (.int 1))) (w1 := (mm_fw1 (mm_zi 64) (.inr (10, mm_fw1f30 (.int 0))) (mm_zi 12288) [.inr (11, [])])) rfl ?_ ?_
    · skip
      refine mm_xk (S' := (2, [some (.int (xs 7)), some (.int 0), some (.int 255)], [.int 0, .int (xs 7)], (mm_fw1 (mm_zi 64) (.inr (10, mm_fw1f30 (.int 0))) (mm_zi 12288) [.inr (11, [])]))) 2 3000 rfl ?_
      refine mm_xif2 rfl false (mm_lt0 (a := (xs 7).toInt) (b := 0) rfl rfl (by omega)) rfl ?_
      refine mm_xk (S' := (7, [some (.int (xs 7)), some (.int 0), some (.int 255)], [.int 255, .int (xs 7)], (mm_fw1 (mm_zi 64) (.inr (10, mm_fw1f30 (.int 0))) (mm_zi 12288) [.inr (11, [])]))) 2 3000 rfl ?_
      refine mm_xif2 rfl false (mm_gt0 (a := (xs 7).toInt) (b := 255) rfl rfl (by omega)) rfl ?_
      refine mm_xk (S' := (15, [some (.int (xs 7)), some (.int 0), some (.int 255)], [.int 1], (mm_fw1 (mm_zi 64) (.inr (10, mm_fw1f30 (.int 0))) (mm_zi 12288) [.inr (11, [])]))) 2 3000 rfl ?_
      exact mm_xfn rfl
    refine mm_xk (S' := (116, [some (.ref 30), some (.int (xs 1)), some (.int (xs 2)), some (.int (xs 3)), some (.int (xs 4)), some (.int (xs 5)), some (.int (xs 6)), some (.int (xs 7)), some (.int (xs 8)), some (.int 1), none, none, none, none], [.int 65535, .int 0, .int (xs 8), .ref 30], (mm_fw1 (mm_zi 64) (.inr (10, mm_fw1f30 (.int 0))) (mm_zi 12288) [.inr (11, [])]))) 4 3000 rfl ?_
    refine mm_xcl (v := (some (.int 0))) (w1 := (mm_fw1 (mm_zi 64) (.inr (10, mm_fw1f30 (.int 0))) (mm_zi 12288) [.inr (11, [])])) rfl ?_ ?_
    · skip
      refine mm_xk (S' := (2, [some (.int (xs 8)), some (.int 0), some (.int 65535)], [.int 0, .int (xs 8)], (mm_fw1 (mm_zi 64) (.inr (10, mm_fw1f30 (.int 0))) (mm_zi 12288) [.inr (11, [])]))) 2 3000 rfl ?_
      refine mm_xif2 rfl false (mm_lt0 (a := (xs 8).toInt) (b := 0) rfl rfl (by omega)) rfl ?_
      refine mm_xk (S' := (7, [some (.int (xs 8)), some (.int 0), some (.int 65535)], [.int 65535, .int (xs 8)], (mm_fw1 (mm_zi 64) (.inr (10, mm_fw1f30 (.int 0))) (mm_zi 12288) [.inr (11, [])]))) 2 3000 rfl ?_
      refine mm_xif2 rfl true (mm_gt1 (a := (xs 8).toInt) (b := 65535) rfl rfl (by omega)) rfl ?_
      refine mm_xk (S' := (15, [some (.int (xs 8)), some (.int 0), some (.int 65535)], [.int 0], (mm_fw1 (mm_zi 64) (.inr (10, mm_fw1f30 (.int 0))) (mm_zi 12288) [.inr (11, [])]))) 1 3000 rfl ?_
      exact mm_xfn rfl
    refine mm_xk (S' := (130, [some (.ref 30), some (.int (xs 1)), some (.int (xs 2)), some (.int (xs 3)), some (.int (xs 4)), some (.int (xs 5)), some (.int (xs 6)), some (.int (xs 7)), some (.int (xs 8)), some (.int 1), none, none, none, none], [], (mm_fw1 (mm_zi 64) (.inr (10, mm_fw1f30 (.int 2))) (mm_zi 12288) [.inr (11, [])]))) 3 3000 rfl ?_
    refine mm_xk (S' := (137, [some (.ref 30), some (.int (xs 1)), some (.int (xs 2)), some (.int (xs 3)), some (.int (xs 4)), some (.int (xs 5)), some (.int (xs 6)), some (.int (xs 7)), some (.int (xs 8)), some (.int 1), none, none, none, none], [], (mm_fw1 (mm_zi 64) (.inr (10, mm_fw1f30 (.int 2))) (mm_zi 12288) [.inr (11, [])]))) 3 3000 rfl ?_
    exact mm_xfn rfl
  refine mm_xk (S' := (1092, [some (.ref 1000004), some (.ref 0), some (.ref 30), some (.ref 47), some (.int 9), some (.int 2), none], [], (mm_fw1 (mm_zi 64) (.inr (10, mm_fw1f30 (.int 2))) (mm_zi 12288) [.inr (11, [])]))) 6 3000 rfl ?_
  refine mm_xk (S' := (1096, [some (.ref 1000004), some (.ref 0), some (.ref 30), some (.ref 47), some (.int 9), some (.int 2), none], [.int 1], (mm_fw1 (mm_zi 64) (.inr (10, mm_fw1f30 (.int 2))) (mm_zi 12288) [.inr (11, [])]))) 8 3000 rfl ?_
  exact mm_xfn rfl
set_option maxRecDepth 100000 in
set_option maxHeartbeats 4000000 in
theorem mm_lf1_11 (xs : Nat → Int32) (l1 : 0 ≤ (xs 1).toInt) (u1 : (xs 1).toInt ≤ 0) (l2 : 0 ≤ (xs 2).toInt) (u2 : (xs 2).toInt ≤ 7) (l3 : 0 ≤ (xs 3).toInt) (u3 : (xs 3).toInt ≤ 7) (l4 : 1 ≤ (xs 4).toInt) (l5 : 1 ≤ (xs 5).toInt) (l6 : 0 ≤ (xs 6).toInt) (u6 : (xs 6).toInt ≤ 255) (l7 : 0 ≤ (xs 7).toInt) (u7 : (xs 7).toInt ≤ 255) (l8 : 0 ≤ (xs 8).toInt) (u8 : (xs 8).toInt ≤ 65535) (hc0 : mm_cmp .gt (xs 4) (8 - xs 2) = false) (hc1 : mm_cmp .gt (xs 5) (8 - xs 3) = false) : mm_Ok xs 192 := by
  obtain ⟨g0, hg0⟩ := mm_drC (Z := mm_Z 9 xs) (d := 6) (v := xs 6) (u := xs 7) (mk := xs 8) (w := (mm_fw1 (mm_zi 64) (.inr (10, mm_fw1f30 (.int 0))) (mm_zi 12288) [])) l1 u1 l2 u2 l3 u3 l4 l5 hc0 hc1 rfl rfl rfl rfl rfl rfl
  obtain ⟨g1, hg1⟩ := mm_drM (Z := mm_Z 9 xs) (d := 7) (v := xs 6) (u := xs 7) (mk := xs 8) (dep := 8) (l9 := some (.int 1)) (w := (mm_fw1 (.inl (.int, 64, .inl g0)) (.inr (10, mm_fw1f30 (.int 0))) (mm_zi 12288) [])) l1 u1 l2 u2 l3 u3 l4 l5 hc0 hc1 rfl rfl rfl rfl
  refine mm_Ok_of (w' := (((mm_w0.set 29 (.inl (.int, 64, .inl g0))).set 30 (.inr (10, mm_f30))).set 31 (.inl (.int, 12288, .inl g1)))) (mm_szS 12288 (mm_szS 63 (mm_szS 64 mm_sz0 rfl) rfl) rfl) rfl rfl ?_
  refine mm_xk (S' := (244, [some (.ref 1000004), some (.ref 0), some (.ref 30), some (.ref 47), some (.int 0), none, none], [.int (xs 8), .int (xs 7), .int (xs 6), .int (xs 5), .int (xs 4), .int (xs 3), .int (xs 2), .int (xs 1), .ref 0], (mm_fw1 (mm_zi 64) (.inr (10, mm_fw1f30 (.int 0))) (mm_zi 12288) []))) 41 3000 rfl ?_
  refine mm_xcl (v := (some (.int 0))) (w1 := (mm_fw1 (.inl (.int, 64, .inl g0)) (.inr (10, mm_fw1f30 (.int 0))) (mm_zi 12288) [])) rfl ?_ ?_
  · skip
    refine mm_xk (S' := (14, [some (.ref 0), some (.int (xs 1)), some (.int (xs 2)), some (.int (xs 3)), some (.int (xs 4)), some (.int (xs 5)), some (.int (xs 6)), some (.int (xs 7)), some (.int (xs 8)), none], [.int (xs 8), .int (xs 7), .int (xs 6), .int (xs 5), .int (xs 4), .int (xs 3), .int (xs 2), .int (xs 1), .ref 0], (mm_fw1 (mm_zi 64) (.inr (10, mm_fw1f30 (.int 0))) (mm_zi 12288) []))) 9 3000 rfl ?_
    refine mm_xcl (v := none) (w1 := (mm_fw1 (.inl (.int, 64, .inl g0)) (.inr (10, mm_fw1f30 (.int 0))) (mm_zi 12288) [])) rfl ?_ ?_
    · skip
      refine mm_xk (S' := (7, [some (.ref 0), some (.int (xs 1)), some (.int (xs 2)), some (.int (xs 3)), some (.int (xs 4)), some (.int (xs 5)), some (.int (xs 6)), some (.int (xs 7)), some (.int (xs 8)), none, none, none, none, none, none], [.int (xs 3), .int (xs 2), .int (xs 1), .ref 1], (mm_fw1 (mm_zi 64) (.inr (10, mm_fw1f30 (.int 0))) (mm_zi 12288) []))) 5 3000 rfl ?_
      refine mm_xcl (v := (some (.int 1))) (w1 := (mm_fw1 (mm_zi 64) (.inr (10, mm_fw1f30 (.int 0))) (mm_zi 12288) [])) rfl ?_ ?_
      · skip
        refine mm_xk (S' := (1, [some (.ref 1), some (.int (xs 1)), some (.int (xs 2)), some (.int (xs 3))], [.int (xs 1)], (mm_fw1 (mm_zi 64) (.inr (10, mm_fw1f30 (.int 0))) (mm_zi 12288) []))) 1 3000 rfl ?_
        refine mm_xif1 rfl false (mm_lt0 (a := (xs 1).toInt) (b := 0) rfl rfl (by omega)) rfl ?_
        refine mm_xk (S' := (9, [some (.ref 1), some (.int (xs 1)), some (.int (xs 2)), some (.int (xs 3))], [.int 1, .int (xs 1)], (mm_fw1 (mm_zi 64) (.inr (10, mm_fw1f30 (.int 0))) (mm_zi 12288) []))) 3 3000 rfl ?_
        refine mm_xif2 rfl false (mm_ge0 (a := (xs 1).toInt) (b := 1) rfl rfl (by omega)) rfl ?_
        refine mm_xk (S' := (13, [some (.ref 1), some (.int (xs 1)), some (.int (xs 2)), some (.int (xs 3))], [.int (xs 2)], (mm_fw1 (mm_zi 64) (.inr (10, mm_fw1f30 (.int 0))) (mm_zi 12288) []))) 1 3000 rfl ?_
        refine mm_xif1 rfl false (mm_lt0 (a := (xs 2).toInt) (b := 0) rfl rfl (by omega)) rfl ?_
        refine mm_xk (S' := (21, [some (.ref 1), some (.int (xs 1)), some (.int (xs 2)), some (.int (xs 3))], [.int 8, .int (xs 2)], (mm_fw1 (mm_zi 64) (.inr (10, mm_fw1f30 (.int 0))) (mm_zi 12288) []))) 3 3000 rfl ?_
        refine mm_xif2 rfl false (mm_ge0 (a := (xs 2).toInt) (b := 8) rfl rfl (by omega)) rfl ?_
        refine mm_xk (S' := (25, [some (.ref 1), some (.int (xs 1)), some (.int (xs 2)), some (.int (xs 3))], [.int (xs 3)], (mm_fw1 (mm_zi 64) (.inr (10, mm_fw1f30 (.int 0))) (mm_zi 12288) []))) 1 3000 rfl ?_
        refine mm_xif1 rfl false (mm_lt0 (a := (xs 3).toInt) (b := 0) rfl rfl (by omega)) rfl ?_
        refine mm_xk (S' := (33, [some (.ref 1), some (.int (xs 1)), some (.int (xs 2)), some (.int (xs 3))], [.int 8, .int (xs 3)], (mm_fw1 (mm_zi 64) (.inr (10, mm_fw1f30 (.int 0))) (mm_zi 12288) []))) 3 3000 rfl ?_
        refine mm_xif2 rfl false (mm_ge0 (a := (xs 3).toInt) (b := 8) rfl rfl (by omega)) rfl ?_
        refine mm_xk (S' := (41, [some (.ref 1), some (.int (xs 1)), some (.int (xs 2)), some (.int (xs 3))], [.int 1], (mm_fw1 (mm_zi 64) (.inr (10, mm_fw1f30 (.int 0))) (mm_zi 12288) []))) 2 3000 rfl ?_
        exact mm_xfn rfl
      refine mm_xk (S' := (23, [some (.ref 0), some (.int (xs 1)), some (.int (xs 2)), some (.int (xs 3)), some (.int (xs 4)), some (.int (xs 5)), some (.int (xs 6)), some (.int (xs 7)), some (.int (xs 8)), none, none, none, none, none, none], [.int (xs 5), .int (xs 4), .int (xs 3), .int (xs 2), .ref 1], (mm_fw1 (mm_zi 64) (.inr (10, mm_fw1f30 (.int 0))) (mm_zi 12288) []))) 7 3000 rfl ?_
      refine mm_xcl (v := (some (.int 1))) (w1 := (mm_fw1 (mm_zi 64) (.inr (10, mm_fw1f30 (.int 0))) (mm_zi 12288) [])) rfl ?_ ?_
      · skip
        refine mm_xk (S' := (2, [some (.ref 1), some (.int (xs 2)), some (.int (xs 3)), some (.int (xs 4)), some (.int (xs 5))], [.int 1, .int (xs 4)], (mm_fw1 (mm_zi 64) (.inr (10, mm_fw1f30 (.int 0))) (mm_zi 12288) []))) 2 3000 rfl ?_
        refine mm_xif2 rfl false (mm_lt0 (a := (xs 4).toInt) (b := 1) rfl rfl (by omega)) rfl ?_
        refine mm_xk (S' := (12, [some (.ref 1), some (.int (xs 2)), some (.int (xs 3)), some (.int (xs 4)), some (.int (xs 5))], [.int (8 - xs 2), .int (xs 4)], (mm_fw1 (mm_zi 64) (.inr (10, mm_fw1f30 (.int 0))) (mm_zi 12288) []))) 5 3000 rfl ?_
        refine mm_xif2 rfl false hc0 rfl ?_
        refine mm_xk (S' := (18, [some (.ref 1), some (.int (xs 2)), some (.int (xs 3)), some (.int (xs 4)), some (.int (xs 5))], [.int 1, .int (xs 5)], (mm_fw1 (mm_zi 64) (.inr (10, mm_fw1f30 (.int 0))) (mm_zi 12288) []))) 2 3000 rfl ?_
        refine mm_xif2 rfl false (mm_lt0 (a := (xs 5).toInt) (b := 1) rfl rfl (by omega)) rfl ?_
        refine mm_xk (S' := (29, [some (.ref 1), some (.int (xs 2)), some (.int (xs 3)), some (.int (xs 4)), some (.int (xs 5))], [.int (8 - xs 3), .int (xs 5)], (mm_fw1 (mm_zi 64) (.inr (10, mm_fw1f30 (.int 0))) (mm_zi 12288) []))) 5 3000 rfl ?_
        refine mm_xif2 rfl false hc1 rfl ?_
        refine mm_xk (S' := (37, [some (.ref 1), some (.int (xs 2)), some (.int (xs 3)), some (.int (xs 4)), some (.int (xs 5))], [.int 1], (mm_fw1 (mm_zi 64) (.inr (10, mm_fw1f30 (.int 0))) (mm_zi 12288) []))) 2 3000 rfl ?_
        exact mm_xfn rfl
      refine mm_xk (S' := (48, [some (.ref 0), some (.int (xs 1)), some (.int (xs 2)), some (.int (xs 3)), some (.int (xs 4)), some (.int (xs 5)), some (.int (xs 6)), some (.int (xs 7)), some (.int (xs 8)), some (.int 255), none, none, none, none, none], [.int (xs 6)], (mm_fw1 (mm_zi 64) (.inr (10, mm_fw1f30 (.int 0))) (mm_zi 12288) []))) 6 3000 rfl ?_
      refine mm_xif1 rfl false (mm_lt0 (a := (xs 6).toInt) (b := 0) rfl rfl (by omega)) rfl ?_
      refine mm_xk (S' := (55, [some (.ref 0), some (.int (xs 1)), some (.int (xs 2)), some (.int (xs 3)), some (.int (xs 4)), some (.int (xs 5)), some (.int (xs 6)), some (.int (xs 7)), some (.int (xs 8)), some (.int 255), none, none, none, none, none], [.int 255, .int (xs 6)], (mm_fw1 (mm_zi 64) (.inr (10, mm_fw1f30 (.int 0))) (mm_zi 12288) []))) 2 3000 rfl ?_
      refine mm_xif2 rfl false (mm_gt0 (a := (xs 6).toInt) (b := 255) rfl rfl (by omega)) rfl ?_
      refine mm_xk (S' := (60, [some (.ref 0), some (.int (xs 1)), some (.int (xs 2)), some (.int (xs 3)), some (.int (xs 4)), some (.int (xs 5)), some (.int (xs 6)), some (.int (xs 7)), some (.int (xs 8)), some (.int 255), none, none, none, none, none], [.int (xs 7)], (mm_fw1 (mm_zi 64) (.inr (10, mm_fw1f30 (.int 0))) (mm_zi 12288) []))) 1 3000 rfl ?_
      refine mm_xif1 rfl false (mm_lt0 (a := (xs 7).toInt) (b := 0) rfl rfl (by omega)) rfl ?_
      refine mm_xk (S' := (67, [some (.ref 0), some (.int (xs 1)), some (.int (xs 2)), some (.int (xs 3)), some (.int (xs 4)), some (.int (xs 5)), some (.int (xs 6)), some (.int (xs 7)), some (.int (xs 8)), some (.int 255), none, none, none, none, none], [.int 255, .int (xs 7)], (mm_fw1 (mm_zi 64) (.inr (10, mm_fw1f30 (.int 0))) (mm_zi 12288) []))) 2 3000 rfl ?_
      refine mm_xif2 rfl false (mm_gt0 (a := (xs 7).toInt) (b := 255) rfl rfl (by omega)) rfl ?_
      refine mm_xk (S' := (72, [some (.ref 0), some (.int (xs 1)), some (.int (xs 2)), some (.int (xs 3)), some (.int (xs 4)), some (.int (xs 5)), some (.int (xs 6)), some (.int (xs 7)), some (.int (xs 8)), some (.int 255), none, none, none, none, none], [.int (xs 8)], (mm_fw1 (mm_zi 64) (.inr (10, mm_fw1f30 (.int 0))) (mm_zi 12288) []))) 1 3000 rfl ?_
      refine mm_xif1 rfl false (mm_lt0 (a := (xs 8).toInt) (b := 0) rfl rfl (by omega)) rfl ?_
      refine mm_xk (S' := (79, [some (.ref 0), some (.int (xs 1)), some (.int (xs 2)), some (.int (xs 3)), some (.int (xs 4)), some (.int (xs 5)), some (.int (xs 6)), some (.int (xs 7)), some (.int (xs 8)), some (.int 255), none, none, none, none, none], [.int 65535, .int (xs 8)], (mm_fw1 (mm_zi 64) (.inr (10, mm_fw1f30 (.int 0))) (mm_zi 12288) []))) 2 3000 rfl ?_
      refine mm_xif2 rfl true (mm_le1 (a := (xs 8).toInt) (b := 65535) rfl rfl (by omega)) rfl ?_
      refine mm_xk (S' := (105, [some (.ref 0), some (.int (xs 1)), some (.int (xs 2)), some (.int (xs 3)), some (.int (xs 4)), some (.int (xs 5)), some (.int (xs 6)), some (.int (xs 7)), some (.int (xs 8)), some (.int 255), some (.int ((((xs 1 * 8) + xs 3) * 8) + xs 2)), some (.int 0), none, none, none], [], (mm_fw1 (mm_zi 64) (.inr (10, mm_fw1f30 (.int 0))) (mm_zi 12288) []))) 9 3000 rfl ?_
      exact hg0
    refine mm_xk (S' := (29, [some (.ref 0), some (.int (xs 1)), some (.int (xs 2)), some (.int (xs 3)), some (.int (xs 4)), some (.int (xs 5)), some (.int (xs 6)), some (.int (xs 7)), some (.int (xs 8)), none], [.int 0], (mm_fw1 (.inl (.int, 64, .inl g0)) (.inr (10, mm_fw1f30 (.int 0))) (mm_zi 12288) []))) 2 3000 rfl ?_
    exact mm_xfn rfl
  refine mm_xk (S' := (301, [some (.ref 1000004), some (.ref 0), some (.ref 30), some (.ref 47), some (.int 0), some (.int 0), none], [.int (xs 8), .int (xs 7), .int (xs 6), .int (xs 5), .int (xs 4), .int (xs 3), .int (xs 2), .int (xs 1), .ref 30], (mm_fw1 (.inl (.int, 64, .inl g0)) (.inr (10, mm_fw1f30 (.int 0))) (mm_zi 12288) []))) 42 3000 rfl ?_
  refine mm_xcl (v := none) (w1 := (mm_fw1 (.inl (.int, 64, .inl g0)) (.inr (10, mm_fw1f30 (.int 0))) (.inl (.int, 12288, .inl g1)) [])) rfl ?_ ?_
  · skip
    refine mm_xk (S' := (1, [some (.ref 30), some (.int (xs 1)), some (.int (xs 2)), some (.int (xs 3)), some (.int (xs 4)), some (.int (xs 5)), some (.int (xs 6)), some (.int (xs 7)), some (.int (xs 8)), none, none, none, none, none], [.int (xs 1)], (mm_fw1 (.inl (.int, 64, .inl g0)) (.inr (10, mm_fw1f30 (.int 0))) (mm_zi 12288) []))) 1 3000 rfl ?_
    refine mm_xif1 rfl false (mm_lt0 (a := (xs 1).toInt) (b := 0) rfl rfl (by omega)) rfl ?_
    refine mm_xk (S' := (9, [some (.ref 30), some (.int (xs 1)), some (.int (xs 2)), some (.int (xs 3)), some (.int (xs 4)), some (.int (xs 5)), some (.int (xs 6)), some (.int (xs 7)), some (.int (xs 8)), none, none, none, none, none], [.int 1, .int (xs 1)], (mm_fw1 (.inl (.int, 64, .inl g0)) (.inr (10, mm_fw1f30 (.int 0))) (mm_zi 12288) []))) 3 3000 rfl ?_
    refine mm_xif2 rfl false (mm_ge0 (a := (xs 1).toInt) (b := 1) rfl rfl (by omega)) rfl ?_
    refine mm_xk (S' := (14, [some (.ref 30), some (.int (xs 1)), some (.int (xs 2)), some (.int (xs 3)), some (.int (xs 4)), some (.int (xs 5)), some (.int (xs 6)), some (.int (xs 7)), some (.int (xs 8)), none, none, none, none, none], [.int (xs 4)], (mm_fw1 (.inl (.int, 64, .inl g0)) (.inr (10, mm_fw1f30 (.int 0))) (mm_zi 12288) []))) 1 3000 rfl ?_
    refine mm_xif1 rfl false (mm_le0 (a := (xs 4).toInt) (b := 0) rfl rfl (by omega)) rfl ?_
    refine mm_xk (S' := (19, [some (.ref 30), some (.int (xs 1)), some (.int (xs 2)), some (.int (xs 3)), some (.int (xs 4)), some (.int (xs 5)), some (.int (xs 6)), some (.int (xs 7)), some (.int (xs 8)), none, none, none, none, none], [.int (xs 5)], (mm_fw1 (.inl (.int, 64, .inl g0)) (.inr (10, mm_fw1f30 (.int 0))) (mm_zi 12288) []))) 1 3000 rfl ?_
    refine mm_xif1 rfl false (mm_le0 (a := (xs 5).toInt) (b := 0) rfl rfl (by omega)) rfl ?_
    refine mm_xk (S' := (23, [some (.ref 30), some (.int (xs 1)), some (.int (xs 2)), some (.int (xs 3)), some (.int (xs 4)), some (.int (xs 5)), some (.int (xs 6)), some (.int (xs 7)), some (.int (xs 8)), none, none, none, none, none], [.int (xs 2)], (mm_fw1 (.inl (.int, 64, .inl g0)) (.inr (10, mm_fw1f30 (.int 0))) (mm_zi 12288) []))) 1 3000 rfl ?_
    refine mm_xif1 rfl false (mm_lt0 (a := (xs 2).toInt) (b := 0) rfl rfl (by omega)) rfl ?_
    refine mm_xk (S' := (27, [some (.ref 30), some (.int (xs 1)), some (.int (xs 2)), some (.int (xs 3)), some (.int (xs 4)), some (.int (xs 5)), some (.int (xs 6)), some (.int (xs 7)), some (.int (xs 8)), none, none, none, none, none], [.int (xs 3)], (mm_fw1 (.inl (.int, 64, .inl g0)) (.inr (10, mm_fw1f30 (.int 0))) (mm_zi 12288) []))) 1 3000 rfl ?_
    refine mm_xif1 rfl false (mm_lt0 (a := (xs 3).toInt) (b := 0) rfl rfl (by omega)) rfl ?_
    refine mm_xk (S' := (35, [some (.ref 30), some (.int (xs 1)), some (.int (xs 2)), some (.int (xs 3)), some (.int (xs 4)), some (.int (xs 5)), some (.int (xs 6)), some (.int (xs 7)), some (.int (xs 8)), none, none, none, none, none], [.int 8, .int (xs 2)], (mm_fw1 (.inl (.int, 64, .inl g0)) (.inr (10, mm_fw1f30 (.int 0))) (mm_zi 12288) []))) 3 3000 rfl ?_
    refine mm_xif2 rfl false (mm_ge0 (a := (xs 2).toInt) (b := 8) rfl rfl (by omega)) rfl ?_
    refine mm_xk (S' := (43, [some (.ref 30), some (.int (xs 1)), some (.int (xs 2)), some (.int (xs 3)), some (.int (xs 4)), some (.int (xs 5)), some (.int (xs 6)), some (.int (xs 7)), some (.int (xs 8)), none, none, none, none, none], [.int 8, .int (xs 3)], (mm_fw1 (.inl (.int, 64, .inl g0)) (.inr (10, mm_fw1f30 (.int 0))) (mm_zi 12288) []))) 3 3000 rfl ?_
    refine mm_xif2 rfl false (mm_ge0 (a := (xs 3).toInt) (b := 8) rfl rfl (by omega)) rfl ?_
    refine mm_xk (S' := (54, [some (.ref 30), some (.int (xs 1)), some (.int (xs 2)), some (.int (xs 3)), some (.int (xs 4)), some (.int (xs 5)), some (.int (xs 6)), some (.int (xs 7)), some (.int (xs 8)), none, none, none, none, none], [.int (8 - xs 2), .int (xs 4)], (mm_fw1 (.inl (.int, 64, .inl g0)) (.inr (10, mm_fw1f30 (.int 0))) (mm_zi 12288) []))) 5 3000 rfl ?_
    refine mm_xif2 rfl false hc0 rfl ?_
    refine mm_xk (S' := (65, [some (.ref 30), some (.int (xs 1)), some (.int (xs 2)), some (.int (xs 3)), some (.int (xs 4)), some (.int (xs 5)), some (.int (xs 6)), some (.int (xs 7)), some (.int (xs 8)), none, none, none, none, none], [.int (8 - xs 3), .int (xs 5)], (mm_fw1 (.inl (.int, 64, .inl g0)) (.inr (10, mm_fw1f30 (.int 0))) (mm_zi 12288) []))) 5 3000 rfl ?_
    refine mm_xif2 rfl false hc1 rfl ?_
    refine mm_xk (S' := (92, [some (.ref 30), some (.int (xs 1)), some (.int (xs 2)), some (.int (xs 3)), some (.int (xs 4)), some (.int (xs 5)), some (.int (xs 6)), some (.int (xs 7)), some (.int (xs 8)), some (.int 1), none, none, none, none], [.int 255, .int 0, .int (xs 6), .ref 30], (mm_fw1 (.inl (.int, 64, .inl g0)) (.inr (10, mm_fw1f30 (.int 0))) (mm_zi 12288) []))) 10 3000 rfl ?_
    refine mm_xcl (v := (some (.int 1))) (w1 := (mm_fw1 (.inl (.int, 64, .inl g0)) (.inr (10, mm_fw1f30 (.int 0))) (mm_zi 12288) [])) rfl ?_ ?_
    · skip
      refine mm_xk (S' := (2, [some (.int (xs 6)), some (.int 0), some (.int 255)], [.int 0, .int (xs 6)], (mm_fw1 (.inl (.int, 64, .inl g0)) (.inr (10, mm_fw1f30 (.int 0))) (mm_zi 12288) []))) 2 3000 rfl ?_
      refine mm_xif2 rfl false (mm_lt0 (a := (xs 6).toInt) (b := 0) rfl rfl (by omega)) rfl ?_
      refine mm_xk (S' := (7, [some (.int (xs 6)), some (.int 0), some (.int 255)], [.int 255, .int (xs 6)], (mm_fw1 (.inl (.int, 64, .inl g0)) (.inr (10, mm_fw1f30 (.int 0))) (mm_zi 12288) []))) 2 3000 rfl ?_
      refine mm_xif2 rfl false (mm_gt0 (a := (xs 6).toInt) (b := 255) rfl rfl (by omega)) rfl ?_
      refine mm_xk (S' := (15, [some (.int (xs 6)), some (.int 0), some (.int 255)], [.int 1], (mm_fw1 (.inl (.int, 64, .inl g0)) (.inr (10, mm_fw1f30 (.int 0))) (mm_zi 12288) []))) 2 3000 rfl ?_
      exact mm_xfn rfl
    refine mm_xk (S' := (105, [some (.ref 30), some (.int (xs 1)), some (.int (xs 2)), some (.int (xs 3)), some (.int (xs 4)), some (.int (xs 5)), some (.int (xs 6)), some (.int (xs 7)), some (.int (xs 8)), some (.int 1), none, none, none, none], [.int 255, .int 0, .int (xs 7), .ref 30], (mm_fw1 (.inl (.int, 64, .inl g0)) (.inr (10, mm_fw1f30 (.int 0))) (mm_zi 12288) []))) 5 3000 rfl ?_
    refine mm_xcl (v := (some (.int 1))) (w1 := (mm_fw1 (.inl (.int, 64, .inl g0)) (.inr (10, mm_fw1f30 (.int 0))) (mm_zi 12288) [])) rfl ?_ ?_
    · skip
      refine mm_xk (S' := (2, [some (.int (xs 7)), some (.int 0), some (.int 255)], [.int 0, .int (xs 7)], (mm_fw1 (.inl (.int, 64, .inl g0)) (.inr (10, mm_fw1f30 (.int 0))) (mm_zi 12288) []))) 2 3000 rfl ?_
      refine mm_xif2 rfl false (mm_lt0 (a := (xs 7).toInt) (b := 0) rfl rfl (by omega)) rfl ?_
      refine mm_xk (S' := (7, [some (.int (xs 7)), some (.int 0), some (.int 255)], [.int 255, .int (xs 7)], (mm_fw1 (.inl (.int, 64, .inl g0)) (.inr (10, mm_fw1f30 (.int 0))) (mm_zi 12288) []))) 2 3000 rfl ?_
      refine mm_xif2 rfl false (mm_gt0 (a := (xs 7).toInt) (b := 255) rfl rfl (by omega)) rfl ?_
      refine mm_xk (S' := (15, [some (.int (xs 7)), some (.int 0), some (.int 255)], [.int 1], (mm_fw1 (.inl (.int, 64, .inl g0)) (.inr (10, mm_fw1f30 (.int 0))) (mm_zi 12288) []))) 2 3000 rfl ?_
      exact mm_xfn rfl
    refine mm_xk (S' := (116, [some (.ref 30), some (.int (xs 1)), some (.int (xs 2)), some (.int (xs 3)), some (.int (xs 4)), some (.int (xs 5)), some (.int (xs 6)), some (.int (xs 7)), some (.int (xs 8)), some (.int 1), none, none, none, none], [.int 65535, .int 0, .int (xs 8), .ref 30], (mm_fw1 (.inl (.int, 64, .inl g0)) (.inr (10, mm_fw1f30 (.int 0))) (mm_zi 12288) []))) 4 3000 rfl ?_
    refine mm_xcl (v := (some (.int 1))) (w1 := (mm_fw1 (.inl (.int, 64, .inl g0)) (.inr (10, mm_fw1f30 (.int 0))) (mm_zi 12288) [])) rfl ?_ ?_
    · skip
      refine mm_xk (S' := (2, [some (.int (xs 8)), some (.int 0), some (.int 65535)], [.int 0, .int (xs 8)], (mm_fw1 (.inl (.int, 64, .inl g0)) (.inr (10, mm_fw1f30 (.int 0))) (mm_zi 12288) []))) 2 3000 rfl ?_
      refine mm_xif2 rfl false (mm_lt0 (a := (xs 8).toInt) (b := 0) rfl rfl (by omega)) rfl ?_
      refine mm_xk (S' := (7, [some (.int (xs 8)), some (.int 0), some (.int 65535)], [.int 65535, .int (xs 8)], (mm_fw1 (.inl (.int, 64, .inl g0)) (.inr (10, mm_fw1f30 (.int 0))) (mm_zi 12288) []))) 2 3000 rfl ?_
      refine mm_xif2 rfl false (mm_gt0 (a := (xs 8).toInt) (b := 65535) rfl rfl (by omega)) rfl ?_
      refine mm_xk (S' := (15, [some (.int (xs 8)), some (.int 0), some (.int 65535)], [.int 1], (mm_fw1 (.inl (.int, 64, .inl g0)) (.inr (10, mm_fw1f30 (.int 0))) (mm_zi 12288) []))) 2 3000 rfl ?_
      exact mm_xfn rfl
    refine mm_xk (S' := (130, [some (.ref 30), some (.int (xs 1)), some (.int (xs 2)), some (.int (xs 3)), some (.int (xs 4)), some (.int (xs 5)), some (.int (xs 6)), some (.int (xs 7)), some (.int (xs 8)), some (.int 1), none, none, none, none], [], (mm_fw1 (.inl (.int, 64, .inl g0)) (.inr (10, mm_fw1f30 (.int 0))) (mm_zi 12288) []))) 4 3000 rfl ?_
    refine mm_xk (S' := (141, [some (.ref 30), some (.int (xs 1)), some (.int (xs 2)), some (.int (xs 3)), some (.int (xs 4)), some (.int (xs 5)), some (.int (xs 6)), some (.int (xs 7)), some (.int (xs 8)), some (.int 1), some (.int 0), none, none, none], [], (mm_fw1 (.inl (.int, 64, .inl g0)) (.inr (10, mm_fw1f30 (.int 0))) (mm_zi 12288) []))) 5 3000 rfl ?_
    exact hg1
  refine mm_xk (S' := (1092, [some (.ref 1000004), some (.ref 0), some (.ref 30), some (.ref 47), some (.int 9), some (.int 0), none], [], (mm_fw1 (.inl (.int, 64, .inl g0)) (.inr (10, mm_fw1f30 (.int 0))) (.inl (.int, 12288, .inl g1)) []))) 6 3000 rfl ?_
  refine mm_xk (S' := (1096, [some (.ref 1000004), some (.ref 0), some (.ref 30), some (.ref 47), some (.int 9), some (.int 0), none], [.int 1], (mm_fw1 (.inl (.int, 64, .inl g0)) (.inr (10, mm_fw1f30 (.int 0))) (.inl (.int, 12288, .inl g1)) []))) 8 3000 rfl ?_
  exact mm_xfn rfl
set_option maxRecDepth 100000 in
set_option maxHeartbeats 4000000 in
theorem mm_lf1_12 (xs : Nat → Int32) (l1 : 0 ≤ (xs 1).toInt) (u1 : (xs 1).toInt ≤ 0) (l2 : 0 ≤ (xs 2).toInt) (u2 : (xs 2).toInt ≤ 7) (l3 : 0 ≤ (xs 3).toInt) (u3 : (xs 3).toInt ≤ 7) (l4 : 1 ≤ (xs 4).toInt) (l5 : 1 ≤ (xs 5).toInt) (l6 : 0 ≤ (xs 6).toInt) (u6 : (xs 6).toInt ≤ 255) (l7 : 0 ≤ (xs 7).toInt) (u7 : (xs 7).toInt ≤ 255) (u8 : (xs 8).toInt ≤ -1) (hc0 : mm_cmp .gt (xs 4) (8 - xs 2) = false) (hc1 : mm_cmp .gt (xs 5) (8 - xs 3) = false) : mm_Ok xs 192 := by
  refine mm_Ok_of (w' := ((mm_w0.set 30 (.inr (10, (mm_f30.set 0 (.int 2))))) ++ [.inr (11, [])])) (mm_szP 6 (mm_szS 63 mm_sz0 rfl) rfl) rfl rfl ?_
  refine mm_xk (S' := (244, [some (.ref 1000004), some (.ref 0), some (.ref 30), some (.ref 47), some (.int 0), none, none], [.int (xs 8), .int (xs 7), .int (xs 6), .int (xs 5), .int (xs 4), .int (xs 3), .int (xs 2), .int (xs 1), .ref 0], (mm_fw1 (mm_zi 64) (.inr (10, mm_fw1f30 (.int 0))) (mm_zi 12288) []))) 41 3000 rfl ?_
  refine mm_xcl (v := (some (.int 2))) (w1 := (mm_fw1 (mm_zi 64) (.inr (10, mm_fw1f30 (.int 0))) (mm_zi 12288) [.inr (11, [])])) rfl ?_ ?_
  · skip
    refine mm_xk (S' := (14, [some (.ref 0), some (.int (xs 1)), some (.int (xs 2)), some (.int (xs 3)), some (.int (xs 4)), some (.int (xs 5)), some (.int (xs 6)), some (.int (xs 7)), some (.int (xs 8)), none], [.int (xs 8), .int (xs 7), .int (xs 6), .int (xs 5), .int (xs 4), .int (xs 3), .int (xs 2), .int (xs 1), .ref 0], (mm_fw1 (mm_zi 64) (.inr (10, mm_fw1f30 (.int 0))) (mm_zi 12288) []))) 9 3000 rfl ?_
    refine mm_xct (x := 11) (hp := 24) (w1 := (mm_fw1 (mm_zi 64) (.inr (10, mm_fw1f30 (.int 0))) (mm_zi 12288) [.inr (11, [])])) rfl ?_ rfl ?_
    · skip
      refine mm_xk (S' := (7, [some (.ref 0), some (.int (xs 1)), some (.int (xs 2)), some (.int (xs 3)), some (.int (xs 4)), some (.int (xs 5)), some (.int (xs 6)), some (.int (xs 7)), some (.int (xs 8)), none, none, none, none, none, none], [.int (xs 3), .int (xs 2), .int (xs 1), .ref 1], (mm_fw1 (mm_zi 64) (.inr (10, mm_fw1f30 (.int 0))) (mm_zi 12288) []))) 5 3000 rfl ?_
      refine mm_xcl (v := (some (.int 1))) (w1 := (mm_fw1 (mm_zi 64) (.inr (10, mm_fw1f30 (.int 0))) (mm_zi 12288) [])) rfl ?_ ?_
      · skip
        refine mm_xk (S' := (1, [some (.ref 1), some (.int (xs 1)), some (.int (xs 2)), some (.int (xs 3))], [.int (xs 1)], (mm_fw1 (mm_zi 64) (.inr (10, mm_fw1f30 (.int 0))) (mm_zi 12288) []))) 1 3000 rfl ?_
        refine mm_xif1 rfl false (mm_lt0 (a := (xs 1).toInt) (b := 0) rfl rfl (by omega)) rfl ?_
        refine mm_xk (S' := (9, [some (.ref 1), some (.int (xs 1)), some (.int (xs 2)), some (.int (xs 3))], [.int 1, .int (xs 1)], (mm_fw1 (mm_zi 64) (.inr (10, mm_fw1f30 (.int 0))) (mm_zi 12288) []))) 3 3000 rfl ?_
        refine mm_xif2 rfl false (mm_ge0 (a := (xs 1).toInt) (b := 1) rfl rfl (by omega)) rfl ?_
        refine mm_xk (S' := (13, [some (.ref 1), some (.int (xs 1)), some (.int (xs 2)), some (.int (xs 3))], [.int (xs 2)], (mm_fw1 (mm_zi 64) (.inr (10, mm_fw1f30 (.int 0))) (mm_zi 12288) []))) 1 3000 rfl ?_
        refine mm_xif1 rfl false (mm_lt0 (a := (xs 2).toInt) (b := 0) rfl rfl (by omega)) rfl ?_
        refine mm_xk (S' := (21, [some (.ref 1), some (.int (xs 1)), some (.int (xs 2)), some (.int (xs 3))], [.int 8, .int (xs 2)], (mm_fw1 (mm_zi 64) (.inr (10, mm_fw1f30 (.int 0))) (mm_zi 12288) []))) 3 3000 rfl ?_
        refine mm_xif2 rfl false (mm_ge0 (a := (xs 2).toInt) (b := 8) rfl rfl (by omega)) rfl ?_
        refine mm_xk (S' := (25, [some (.ref 1), some (.int (xs 1)), some (.int (xs 2)), some (.int (xs 3))], [.int (xs 3)], (mm_fw1 (mm_zi 64) (.inr (10, mm_fw1f30 (.int 0))) (mm_zi 12288) []))) 1 3000 rfl ?_
        refine mm_xif1 rfl false (mm_lt0 (a := (xs 3).toInt) (b := 0) rfl rfl (by omega)) rfl ?_
        refine mm_xk (S' := (33, [some (.ref 1), some (.int (xs 1)), some (.int (xs 2)), some (.int (xs 3))], [.int 8, .int (xs 3)], (mm_fw1 (mm_zi 64) (.inr (10, mm_fw1f30 (.int 0))) (mm_zi 12288) []))) 3 3000 rfl ?_
        refine mm_xif2 rfl false (mm_ge0 (a := (xs 3).toInt) (b := 8) rfl rfl (by omega)) rfl ?_
        refine mm_xk (S' := (41, [some (.ref 1), some (.int (xs 1)), some (.int (xs 2)), some (.int (xs 3))], [.int 1], (mm_fw1 (mm_zi 64) (.inr (10, mm_fw1f30 (.int 0))) (mm_zi 12288) []))) 2 3000 rfl ?_
        exact mm_xfn rfl
      refine mm_xk (S' := (23, [some (.ref 0), some (.int (xs 1)), some (.int (xs 2)), some (.int (xs 3)), some (.int (xs 4)), some (.int (xs 5)), some (.int (xs 6)), some (.int (xs 7)), some (.int (xs 8)), none, none, none, none, none, none], [.int (xs 5), .int (xs 4), .int (xs 3), .int (xs 2), .ref 1], (mm_fw1 (mm_zi 64) (.inr (10, mm_fw1f30 (.int 0))) (mm_zi 12288) []))) 7 3000 rfl ?_
      refine mm_xcl (v := (some (.int 1))) (w1 := (mm_fw1 (mm_zi 64) (.inr (10, mm_fw1f30 (.int 0))) (mm_zi 12288) [])) rfl ?_ ?_
      · skip
        refine mm_xk (S' := (2, [some (.ref 1), some (.int (xs 2)), some (.int (xs 3)), some (.int (xs 4)), some (.int (xs 5))], [.int 1, .int (xs 4)], (mm_fw1 (mm_zi 64) (.inr (10, mm_fw1f30 (.int 0))) (mm_zi 12288) []))) 2 3000 rfl ?_
        refine mm_xif2 rfl false (mm_lt0 (a := (xs 4).toInt) (b := 1) rfl rfl (by omega)) rfl ?_
        refine mm_xk (S' := (12, [some (.ref 1), some (.int (xs 2)), some (.int (xs 3)), some (.int (xs 4)), some (.int (xs 5))], [.int (8 - xs 2), .int (xs 4)], (mm_fw1 (mm_zi 64) (.inr (10, mm_fw1f30 (.int 0))) (mm_zi 12288) []))) 5 3000 rfl ?_
        refine mm_xif2 rfl false hc0 rfl ?_
        refine mm_xk (S' := (18, [some (.ref 1), some (.int (xs 2)), some (.int (xs 3)), some (.int (xs 4)), some (.int (xs 5))], [.int 1, .int (xs 5)], (mm_fw1 (mm_zi 64) (.inr (10, mm_fw1f30 (.int 0))) (mm_zi 12288) []))) 2 3000 rfl ?_
        refine mm_xif2 rfl false (mm_lt0 (a := (xs 5).toInt) (b := 1) rfl rfl (by omega)) rfl ?_
        refine mm_xk (S' := (29, [some (.ref 1), some (.int (xs 2)), some (.int (xs 3)), some (.int (xs 4)), some (.int (xs 5))], [.int (8 - xs 3), .int (xs 5)], (mm_fw1 (mm_zi 64) (.inr (10, mm_fw1f30 (.int 0))) (mm_zi 12288) []))) 5 3000 rfl ?_
        refine mm_xif2 rfl false hc1 rfl ?_
        refine mm_xk (S' := (37, [some (.ref 1), some (.int (xs 2)), some (.int (xs 3)), some (.int (xs 4)), some (.int (xs 5))], [.int 1], (mm_fw1 (mm_zi 64) (.inr (10, mm_fw1f30 (.int 0))) (mm_zi 12288) []))) 2 3000 rfl ?_
        exact mm_xfn rfl
      refine mm_xk (S' := (48, [some (.ref 0), some (.int (xs 1)), some (.int (xs 2)), some (.int (xs 3)), some (.int (xs 4)), some (.int (xs 5)), some (.int (xs 6)), some (.int (xs 7)), some (.int (xs 8)), some (.int 255), none, none, none, none, none], [.int (xs 6)], (mm_fw1 (mm_zi 64) (.inr (10, mm_fw1f30 (.int 0))) (mm_zi 12288) []))) 6 3000 rfl ?_
      refine mm_xif1 rfl false (mm_lt0 (a := (xs 6).toInt) (b := 0) rfl rfl (by omega)) rfl ?_
      refine mm_xk (S' := (55, [some (.ref 0), some (.int (xs 1)), some (.int (xs 2)), some (.int (xs 3)), some (.int (xs 4)), some (.int (xs 5)), some (.int (xs 6)), some (.int (xs 7)), some (.int (xs 8)), some (.int 255), none, none, none, none, none], [.int 255, .int (xs 6)], (mm_fw1 (mm_zi 64) (.inr (10, mm_fw1f30 (.int 0))) (mm_zi 12288) []))) 2 3000 rfl ?_
      refine mm_xif2 rfl false (mm_gt0 (a := (xs 6).toInt) (b := 255) rfl rfl (by omega)) rfl ?_
      refine mm_xk (S' := (60, [some (.ref 0), some (.int (xs 1)), some (.int (xs 2)), some (.int (xs 3)), some (.int (xs 4)), some (.int (xs 5)), some (.int (xs 6)), some (.int (xs 7)), some (.int (xs 8)), some (.int 255), none, none, none, none, none], [.int (xs 7)], (mm_fw1 (mm_zi 64) (.inr (10, mm_fw1f30 (.int 0))) (mm_zi 12288) []))) 1 3000 rfl ?_
      refine mm_xif1 rfl false (mm_lt0 (a := (xs 7).toInt) (b := 0) rfl rfl (by omega)) rfl ?_
      refine mm_xk (S' := (67, [some (.ref 0), some (.int (xs 1)), some (.int (xs 2)), some (.int (xs 3)), some (.int (xs 4)), some (.int (xs 5)), some (.int (xs 6)), some (.int (xs 7)), some (.int (xs 8)), some (.int 255), none, none, none, none, none], [.int 255, .int (xs 7)], (mm_fw1 (mm_zi 64) (.inr (10, mm_fw1f30 (.int 0))) (mm_zi 12288) []))) 2 3000 rfl ?_
      refine mm_xif2 rfl false (mm_gt0 (a := (xs 7).toInt) (b := 255) rfl rfl (by omega)) rfl ?_
      refine mm_xk (S' := (72, [some (.ref 0), some (.int (xs 1)), some (.int (xs 2)), some (.int (xs 3)), some (.int (xs 4)), some (.int (xs 5)), some (.int (xs 6)), some (.int (xs 7)), some (.int (xs 8)), some (.int 255), none, none, none, none, none], [.int (xs 8)], (mm_fw1 (mm_zi 64) (.inr (10, mm_fw1f30 (.int 0))) (mm_zi 12288) []))) 1 3000 rfl ?_
      refine mm_xif1 rfl true (mm_lt1 (a := (xs 8).toInt) (b := 0) rfl rfl (by omega)) rfl ?_
      exact mm_xfn rfl
    refine mm_xk (S' := (27, [some (.ref 0), some (.int (xs 1)), some (.int (xs 2)), some (.int (xs 3)), some (.int (xs 4)), some (.int (xs 5)), some (.int (xs 6)), some (.int (xs 7)), some (.int (xs 8)), some (.ref 48)], [.int 2], (mm_fw1 (mm_zi 64) (.inr (10, mm_fw1f30 (.int 0))) (mm_zi 12288) [.inr (11, [])]))) 2 3000 rfl ?_
    exact mm_xfn rfl
  refine mm_xk (S' := (301, [some (.ref 1000004), some (.ref 0), some (.ref 30), some (.ref 47), some (.int 0), some (.int 2), none], [.int (xs 8), .int (xs 7), .int (xs 6), .int (xs 5), .int (xs 4), .int (xs 3), .int (xs 2), .int (xs 1), .ref 30], (mm_fw1 (mm_zi 64) (.inr (10, mm_fw1f30 (.int 0))) (mm_zi 12288) [.inr (11, [])]))) 42 3000 rfl ?_
  refine mm_xcl (v := none) (w1 := (mm_fw1 (mm_zi 64) (.inr (10, mm_fw1f30 (.int 2))) (mm_zi 12288) [.inr (11, [])])) rfl ?_ ?_
  · skip
    refine mm_xk (S' := (1, [some (.ref 30), some (.int (xs 1)), some (.int (xs 2)), some (.int (xs 3)), some (.int (xs 4)), some (.int (xs 5)), some (.int (xs 6)), some (.int (xs 7)), some (.int (xs 8)), none, none, none, none, none], [.int (xs 1)], (mm_fw1 (mm_zi 64) (.inr (10, mm_fw1f30 (.int 0))) (mm_zi 12288) [.inr (11, [])]))) 1 3000 rfl ?_
    refine mm_xif1 rfl false (mm_lt0 (a := (xs 1).toInt) (b := 0) rfl rfl (by omega)) rfl ?_
    refine mm_xk (S' := (9, [some (.ref 30), some (.int (xs 1)), some (.int (xs 2)), some (.int (xs 3)), some (.int (xs 4)), some (.int (xs 5)), some (.int (xs 6)), some (.int (xs 7)), some (.int (xs 8)), none, none, none, none, none], [.int 1, .int (xs 1)], (mm_fw1 (mm_zi 64) (.inr (10, mm_fw1f30 (.int 0))) (mm_zi 12288) [.inr (11, [])]))) 3 3000 rfl ?_
    refine mm_xif2 rfl false (mm_ge0 (a := (xs 1).toInt) (b := 1) rfl rfl (by omega)) rfl ?_
    refine mm_xk (S' := (14, [some (.ref 30), some (.int (xs 1)), some (.int (xs 2)), some (.int (xs 3)), some (.int (xs 4)), some (.int (xs 5)), some (.int (xs 6)), some (.int (xs 7)), some (.int (xs 8)), none, none, none, none, none], [.int (xs 4)], (mm_fw1 (mm_zi 64) (.inr (10, mm_fw1f30 (.int 0))) (mm_zi 12288) [.inr (11, [])]))) 1 3000 rfl ?_
    refine mm_xif1 rfl false (mm_le0 (a := (xs 4).toInt) (b := 0) rfl rfl (by omega)) rfl ?_
    refine mm_xk (S' := (19, [some (.ref 30), some (.int (xs 1)), some (.int (xs 2)), some (.int (xs 3)), some (.int (xs 4)), some (.int (xs 5)), some (.int (xs 6)), some (.int (xs 7)), some (.int (xs 8)), none, none, none, none, none], [.int (xs 5)], (mm_fw1 (mm_zi 64) (.inr (10, mm_fw1f30 (.int 0))) (mm_zi 12288) [.inr (11, [])]))) 1 3000 rfl ?_
    refine mm_xif1 rfl false (mm_le0 (a := (xs 5).toInt) (b := 0) rfl rfl (by omega)) rfl ?_
    refine mm_xk (S' := (23, [some (.ref 30), some (.int (xs 1)), some (.int (xs 2)), some (.int (xs 3)), some (.int (xs 4)), some (.int (xs 5)), some (.int (xs 6)), some (.int (xs 7)), some (.int (xs 8)), none, none, none, none, none], [.int (xs 2)], (mm_fw1 (mm_zi 64) (.inr (10, mm_fw1f30 (.int 0))) (mm_zi 12288) [.inr (11, [])]))) 1 3000 rfl ?_
    refine mm_xif1 rfl false (mm_lt0 (a := (xs 2).toInt) (b := 0) rfl rfl (by omega)) rfl ?_
    refine mm_xk (S' := (27, [some (.ref 30), some (.int (xs 1)), some (.int (xs 2)), some (.int (xs 3)), some (.int (xs 4)), some (.int (xs 5)), some (.int (xs 6)), some (.int (xs 7)), some (.int (xs 8)), none, none, none, none, none], [.int (xs 3)], (mm_fw1 (mm_zi 64) (.inr (10, mm_fw1f30 (.int 0))) (mm_zi 12288) [.inr (11, [])]))) 1 3000 rfl ?_
    refine mm_xif1 rfl false (mm_lt0 (a := (xs 3).toInt) (b := 0) rfl rfl (by omega)) rfl ?_
    refine mm_xk (S' := (35, [some (.ref 30), some (.int (xs 1)), some (.int (xs 2)), some (.int (xs 3)), some (.int (xs 4)), some (.int (xs 5)), some (.int (xs 6)), some (.int (xs 7)), some (.int (xs 8)), none, none, none, none, none], [.int 8, .int (xs 2)], (mm_fw1 (mm_zi 64) (.inr (10, mm_fw1f30 (.int 0))) (mm_zi 12288) [.inr (11, [])]))) 3 3000 rfl ?_
    refine mm_xif2 rfl false (mm_ge0 (a := (xs 2).toInt) (b := 8) rfl rfl (by omega)) rfl ?_
    refine mm_xk (S' := (43, [some (.ref 30), some (.int (xs 1)), some (.int (xs 2)), some (.int (xs 3)), some (.int (xs 4)), some (.int (xs 5)), some (.int (xs 6)), some (.int (xs 7)), some (.int (xs 8)), none, none, none, none, none], [.int 8, .int (xs 3)], (mm_fw1 (mm_zi 64) (.inr (10, mm_fw1f30 (.int 0))) (mm_zi 12288) [.inr (11, [])]))) 3 3000 rfl ?_
    refine mm_xif2 rfl false (mm_ge0 (a := (xs 3).toInt) (b := 8) rfl rfl (by omega)) rfl ?_
    refine mm_xk (S' := (54, [some (.ref 30), some (.int (xs 1)), some (.int (xs 2)), some (.int (xs 3)), some (.int (xs 4)), some (.int (xs 5)), some (.int (xs 6)), some (.int (xs 7)), some (.int (xs 8)), none, none, none, none, none], [.int (8 - xs 2), .int (xs 4)], (mm_fw1 (mm_zi 64) (.inr (10, mm_fw1f30 (.int 0))) (mm_zi 12288) [.inr (11, [])]))) 5 3000 rfl ?_
    refine mm_xif2 rfl false hc0 rfl ?_
    refine mm_xk (S' := (65, [some (.ref 30), some (.int (xs 1)), some (.int (xs 2)), some (.int (xs 3)), some (.int (xs 4)), some (.int (xs 5)), some (.int (xs 6)), some (.int (xs 7)), some (.int (xs 8)), none, none, none, none, none], [.int (8 - xs 3), .int (xs 5)], (mm_fw1 (mm_zi 64) (.inr (10, mm_fw1f30 (.int 0))) (mm_zi 12288) [.inr (11, [])]))) 5 3000 rfl ?_
    refine mm_xif2 rfl false hc1 rfl ?_
    refine mm_xk (S' := (92, [some (.ref 30), some (.int (xs 1)), some (.int (xs 2)), some (.int (xs 3)), some (.int (xs 4)), some (.int (xs 5)), some (.int (xs 6)), some (.int (xs 7)), some (.int (xs 8)), some (.int 1), none, none, none, none], [.int 255, .int 0, .int (xs 6), .ref 30], (mm_fw1 (mm_zi 64) (.inr (10, mm_fw1f30 (.int 0))) (mm_zi 12288) [.inr (11, [])]))) 10 3000 rfl ?_
    refine mm_xcl (v := (some (.int 1))) (w1 := (mm_fw1 (mm_zi 64) (.inr (10, mm_fw1f30 (.int 0))) (mm_zi 12288) [.inr (11, [])])) rfl ?_ ?_
    · skip
      refine mm_xk (S' := (2, [some (.int (xs 6)), some (.int 0), some (.int 255)], [.int 0, .int (xs 6)], (mm_fw1 (mm_zi 64) (.inr (10, mm_fw1f30 (.int 0))) (mm_zi 12288) [.inr (11, [])]))) 2 3000 rfl ?_
      refine mm_xif2 rfl false (mm_lt0 (a := (xs 6).toInt) (b := 0) rfl rfl (by omega)) rfl ?_
      refine mm_xk (S' := (7, [some (.int (xs 6)), some (.int 0), some (.int 255)], [.int 255, .int (xs 6)], (mm_fw1 (mm_zi 64) (.inr (10, mm_fw1f30 (.int 0))) (mm_zi 12288) [.inr (11, [])]))) 2 3000 rfl ?_
      refine mm_xif2 rfl false (mm_gt0 (a := (xs 6).toInt) (b := 255) rfl rfl (by omega)) rfl ?_
      refine mm_xk (S' := (15, [some (.int (xs 6)), some (.int 0), some (.int 255)], [.int 1], (mm_fw1 (mm_zi 64) (.inr (10, mm_fw1f30 (.int 0))) (mm_zi 12288) [.inr (11, [])]))) 2 3000 rfl ?_
      exact mm_xfn rfl
    refine mm_xk (S' := (105, [some (.ref 30), some (.int (xs 1)), some (.int (xs 2)), some (.int (xs 3)), some (.int (xs 4)), some (.int (xs 5)), some (.int (xs 6)), some (.int (xs 7)), some (.int (xs 8)), some (.int 1), none, none, none, none], [.int 255, .int 0, .int (xs 7), .ref 30], (mm_fw1 (mm_zi 64) (.inr (10, mm_fw1f30 (.int 0))) (mm_zi 12288) [.inr (11, [])]))) 5 3000 rfl ?_
    refine mm_xcl (v := (some (.int 1))) (w1 := (mm_fw1 (mm_zi 64) (.inr (10, mm_fw1f30 (.int 0))) (mm_zi 12288) [.inr (11, [])])) rfl ?_ ?_
    · skip
      refine mm_xk (S' := (2, [some (.int (xs 7)), some (.int 0), some (.int 255)], [.int 0, .int (xs 7)], (mm_fw1 (mm_zi 64) (.inr (10, mm_fw1f30 (.int 0))) (mm_zi 12288) [.inr (11, [])]))) 2 3000 rfl ?_
      refine mm_xif2 rfl false (mm_lt0 (a := (xs 7).toInt) (b := 0) rfl rfl (by omega)) rfl ?_
      refine mm_xk (S' := (7, [some (.int (xs 7)), some (.int 0), some (.int 255)], [.int 255, .int (xs 7)], (mm_fw1 (mm_zi 64) (.inr (10, mm_fw1f30 (.int 0))) (mm_zi 12288) [.inr (11, [])]))) 2 3000 rfl ?_
      refine mm_xif2 rfl false (mm_gt0 (a := (xs 7).toInt) (b := 255) rfl rfl (by omega)) rfl ?_
      refine mm_xk (S' := (15, [some (.int (xs 7)), some (.int 0), some (.int 255)], [.int 1], (mm_fw1 (mm_zi 64) (.inr (10, mm_fw1f30 (.int 0))) (mm_zi 12288) [.inr (11, [])]))) 2 3000 rfl ?_
      exact mm_xfn rfl
    refine mm_xk (S' := (116, [some (.ref 30), some (.int (xs 1)), some (.int (xs 2)), some (.int (xs 3)), some (.int (xs 4)), some (.int (xs 5)), some (.int (xs 6)), some (.int (xs 7)), some (.int (xs 8)), some (.int 1), none, none, none, none], [.int 65535, .int 0, .int (xs 8), .ref 30], (mm_fw1 (mm_zi 64) (.inr (10, mm_fw1f30 (.int 0))) (mm_zi 12288) [.inr (11, [])]))) 4 3000 rfl ?_
    refine mm_xcl (v := (some (.int 0))) (w1 := (mm_fw1 (mm_zi 64) (.inr (10, mm_fw1f30 (.int 0))) (mm_zi 12288) [.inr (11, [])])) rfl ?_ ?_
    · skip
      refine mm_xk (S' := (2, [some (.int (xs 8)), some (.int 0), some (.int 65535)], [.int 0, .int (xs 8)], (mm_fw1 (mm_zi 64) (.inr (10, mm_fw1f30 (.int 0))) (mm_zi 12288) [.inr (11, [])]))) 2 3000 rfl ?_
      refine mm_xif2 rfl true (mm_lt1 (a := (xs 8).toInt) (b := 0) rfl rfl (by omega)) rfl ?_
      refine mm_xk (S' := (15, [some (.int (xs 8)), some (.int 0), some (.int 65535)], [.int 0], (mm_fw1 (mm_zi 64) (.inr (10, mm_fw1f30 (.int 0))) (mm_zi 12288) [.inr (11, [])]))) 1 3000 rfl ?_
      exact mm_xfn rfl
    refine mm_xk (S' := (130, [some (.ref 30), some (.int (xs 1)), some (.int (xs 2)), some (.int (xs 3)), some (.int (xs 4)), some (.int (xs 5)), some (.int (xs 6)), some (.int (xs 7)), some (.int (xs 8)), some (.int 1), none, none, none, none], [], (mm_fw1 (mm_zi 64) (.inr (10, mm_fw1f30 (.int 2))) (mm_zi 12288) [.inr (11, [])]))) 3 3000 rfl ?_
    refine mm_xk (S' := (137, [some (.ref 30), some (.int (xs 1)), some (.int (xs 2)), some (.int (xs 3)), some (.int (xs 4)), some (.int (xs 5)), some (.int (xs 6)), some (.int (xs 7)), some (.int (xs 8)), some (.int 1), none, none, none, none], [], (mm_fw1 (mm_zi 64) (.inr (10, mm_fw1f30 (.int 2))) (mm_zi 12288) [.inr (11, [])]))) 3 3000 rfl ?_
    exact mm_xfn rfl
  refine mm_xk (S' := (1092, [some (.ref 1000004), some (.ref 0), some (.ref 30), some (.ref 47), some (.int 9), some (.int 2), none], [], (mm_fw1 (mm_zi 64) (.inr (10, mm_fw1f30 (.int 2))) (mm_zi 12288) [.inr (11, [])]))) 6 3000 rfl ?_
  refine mm_xk (S' := (1096, [some (.ref 1000004), some (.ref 0), some (.ref 30), some (.ref 47), some (.int 9), some (.int 2), none], [.int 1], (mm_fw1 (mm_zi 64) (.inr (10, mm_fw1f30 (.int 2))) (mm_zi 12288) [.inr (11, [])]))) 8 3000 rfl ?_
  exact mm_xfn rfl
set_option maxRecDepth 100000 in
set_option maxHeartbeats 4000000 in
theorem mm_lf1_13 (xs : Nat → Int32) (l1 : 0 ≤ (xs 1).toInt) (u1 : (xs 1).toInt ≤ 0) (l2 : 0 ≤ (xs 2).toInt) (u2 : (xs 2).toInt ≤ 7) (l3 : 0 ≤ (xs 3).toInt) (u3 : (xs 3).toInt ≤ 7) (l4 : 1 ≤ (xs 4).toInt) (l5 : 1 ≤ (xs 5).toInt) (l6 : 0 ≤ (xs 6).toInt) (u6 : (xs 6).toInt ≤ 255) (u7 : (xs 7).toInt ≤ -1) (hc0 : mm_cmp .gt (xs 4) (8 - xs 2) = false) (hc1 : mm_cmp .gt (xs 5) (8 - xs 3) = false) : mm_Ok xs 192 := by
  refine mm_Ok_of (w' := ((mm_w0.set 30 (.inr (10, (mm_f30.set 0 (.int 2))))) ++ [.inr (11, [])])) (mm_szP 6 (mm_szS 63 mm_sz0 rfl) rfl) rfl rfl ?_
  refine mm_xk (S' := (244, [some (.ref 1000004), some (.ref 0), some (.ref 30), some (.ref 47), some (.int 0), none, none], [.int (xs 8), .int (xs 7), .int (xs 6), .int (xs 5), .int (xs 4), .int (xs 3), .int (xs 2), .int (xs 1), .ref 0], (mm_fw1 (mm_zi 64) (.inr (10, mm_fw1f30 (.int 0))) (mm_zi 12288) []))) 41 3000 rfl ?_
  refine mm_xcl (v := (some (.int 2))) (w1 := (mm_fw1 (mm_zi 64) (.inr (10, mm_fw1f30 (.int 0))) (mm_zi 12288) [.inr (11, [])])) rfl ?_ ?_
  · skip
    refine mm_xk (S' := (14, [some (.ref 0), some (.int (xs 1)), some (.int (xs 2)), some (.int (xs 3)), some (.int (xs 4)), some (.int (xs 5)), some (.int (xs 6)), some (.int (xs 7)), some (.int (xs 8)), none], [.int (xs 8), .int (xs 7), .int (xs 6), .int (xs 5), .int (xs 4), .int (xs 3), .int (xs 2), .int (xs 1), .ref 0], (mm_fw1 (mm_zi 64) (.inr (10, mm_fw1f30 (.int 0))) (mm_zi 12288) []))) 9 3000 rfl ?_
    refine mm_xct (x := 11) (hp := 24) (w1 := (mm_fw1 (mm_zi 64) (.inr (10, mm_fw1f30 (.int 0))) (mm_zi 12288) [.inr (11, [])])) rfl ?_ rfl ?_
    · skip
      refine mm_xk (S' := (7, [some (.ref 0), some (.int (xs 1)), some (.int (xs 2)), some (.int (xs 3)), some (.int (xs 4)), some (.int (xs 5)), some (.int (xs 6)), some (.int (xs 7)), some (.int (xs 8)), none, none, none, none, none, none], [.int (xs 3), .int (xs 2), .int (xs 1), .ref 1], (mm_fw1 (mm_zi 64) (.inr (10, mm_fw1f30 (.int 0))) (mm_zi 12288) []))) 5 3000 rfl ?_
      refine mm_xcl (v := (some (.int 1))) (w1 := (mm_fw1 (mm_zi 64) (.inr (10, mm_fw1f30 (.int 0))) (mm_zi 12288) [])) rfl ?_ ?_
      · skip
        refine mm_xk (S' := (1, [some (.ref 1), some (.int (xs 1)), some (.int (xs 2)), some (.int (xs 3))], [.int (xs 1)], (mm_fw1 (mm_zi 64) (.inr (10, mm_fw1f30 (.int 0))) (mm_zi 12288) []))) 1 3000 rfl ?_
        refine mm_xif1 rfl false (mm_lt0 (a := (xs 1).toInt) (b := 0) rfl rfl (by omega)) rfl ?_
        refine mm_xk (S' := (9, [some (.ref 1), some (.int (xs 1)), some (.int (xs 2)), some (.int (xs 3))], [.int 1, .int (xs 1)], (mm_fw1 (mm_zi 64) (.inr (10, mm_fw1f30 (.int 0))) (mm_zi 12288) []))) 3 3000 rfl ?_
        refine mm_xif2 rfl false (mm_ge0 (a := (xs 1).toInt) (b := 1) rfl rfl (by omega)) rfl ?_
        refine mm_xk (S' := (13, [some (.ref 1), some (.int (xs 1)), some (.int (xs 2)), some (.int (xs 3))], [.int (xs 2)], (mm_fw1 (mm_zi 64) (.inr (10, mm_fw1f30 (.int 0))) (mm_zi 12288) []))) 1 3000 rfl ?_
        refine mm_xif1 rfl false (mm_lt0 (a := (xs 2).toInt) (b := 0) rfl rfl (by omega)) rfl ?_
        refine mm_xk (S' := (21, [some (.ref 1), some (.int (xs 1)), some (.int (xs 2)), some (.int (xs 3))], [.int 8, .int (xs 2)], (mm_fw1 (mm_zi 64) (.inr (10, mm_fw1f30 (.int 0))) (mm_zi 12288) []))) 3 3000 rfl ?_
        refine mm_xif2 rfl false (mm_ge0 (a := (xs 2).toInt) (b := 8) rfl rfl (by omega)) rfl ?_
        refine mm_xk (S' := (25, [some (.ref 1), some (.int (xs 1)), some (.int (xs 2)), some (.int (xs 3))], [.int (xs 3)], (mm_fw1 (mm_zi 64) (.inr (10, mm_fw1f30 (.int 0))) (mm_zi 12288) []))) 1 3000 rfl ?_
        refine mm_xif1 rfl false (mm_lt0 (a := (xs 3).toInt) (b := 0) rfl rfl (by omega)) rfl ?_
        refine mm_xk (S' := (33, [some (.ref 1), some (.int (xs 1)), some (.int (xs 2)), some (.int (xs 3))], [.int 8, .int (xs 3)], (mm_fw1 (mm_zi 64) (.inr (10, mm_fw1f30 (.int 0))) (mm_zi 12288) []))) 3 3000 rfl ?_
        refine mm_xif2 rfl false (mm_ge0 (a := (xs 3).toInt) (b := 8) rfl rfl (by omega)) rfl ?_
        refine mm_xk (S' := (41, [some (.ref 1), some (.int (xs 1)), some (.int (xs 2)), some (.int (xs 3))], [.int 1], (mm_fw1 (mm_zi 64) (.inr (10, mm_fw1f30 (.int 0))) (mm_zi 12288) []))) 2 3000 rfl ?_
        exact mm_xfn rfl
      refine mm_xk (S' := (23, [some (.ref 0), some (.int (xs 1)), some (.int (xs 2)), some (.int (xs 3)), some (.int (xs 4)), some (.int (xs 5)), some (.int (xs 6)), some (.int (xs 7)), some (.int (xs 8)), none, none, none, none, none, none], [.int (xs 5), .int (xs 4), .int (xs 3), .int (xs 2), .ref 1], (mm_fw1 (mm_zi 64) (.inr (10, mm_fw1f30 (.int 0))) (mm_zi 12288) []))) 7 3000 rfl ?_
      refine mm_xcl (v := (some (.int 1))) (w1 := (mm_fw1 (mm_zi 64) (.inr (10, mm_fw1f30 (.int 0))) (mm_zi 12288) [])) rfl ?_ ?_
      · skip
        refine mm_xk (S' := (2, [some (.ref 1), some (.int (xs 2)), some (.int (xs 3)), some (.int (xs 4)), some (.int (xs 5))], [.int 1, .int (xs 4)], (mm_fw1 (mm_zi 64) (.inr (10, mm_fw1f30 (.int 0))) (mm_zi 12288) []))) 2 3000 rfl ?_
        refine mm_xif2 rfl false (mm_lt0 (a := (xs 4).toInt) (b := 1) rfl rfl (by omega)) rfl ?_
        refine mm_xk (S' := (12, [some (.ref 1), some (.int (xs 2)), some (.int (xs 3)), some (.int (xs 4)), some (.int (xs 5))], [.int (8 - xs 2), .int (xs 4)], (mm_fw1 (mm_zi 64) (.inr (10, mm_fw1f30 (.int 0))) (mm_zi 12288) []))) 5 3000 rfl ?_
        refine mm_xif2 rfl false hc0 rfl ?_
        refine mm_xk (S' := (18, [some (.ref 1), some (.int (xs 2)), some (.int (xs 3)), some (.int (xs 4)), some (.int (xs 5))], [.int 1, .int (xs 5)], (mm_fw1 (mm_zi 64) (.inr (10, mm_fw1f30 (.int 0))) (mm_zi 12288) []))) 2 3000 rfl ?_
        refine mm_xif2 rfl false (mm_lt0 (a := (xs 5).toInt) (b := 1) rfl rfl (by omega)) rfl ?_
        refine mm_xk (S' := (29, [some (.ref 1), some (.int (xs 2)), some (.int (xs 3)), some (.int (xs 4)), some (.int (xs 5))], [.int (8 - xs 3), .int (xs 5)], (mm_fw1 (mm_zi 64) (.inr (10, mm_fw1f30 (.int 0))) (mm_zi 12288) []))) 5 3000 rfl ?_
        refine mm_xif2 rfl false hc1 rfl ?_
        refine mm_xk (S' := (37, [some (.ref 1), some (.int (xs 2)), some (.int (xs 3)), some (.int (xs 4)), some (.int (xs 5))], [.int 1], (mm_fw1 (mm_zi 64) (.inr (10, mm_fw1f30 (.int 0))) (mm_zi 12288) []))) 2 3000 rfl ?_
        exact mm_xfn rfl
      refine mm_xk (S' := (48, [some (.ref 0), some (.int (xs 1)), some (.int (xs 2)), some (.int (xs 3)), some (.int (xs 4)), some (.int (xs 5)), some (.int (xs 6)), some (.int (xs 7)), some (.int (xs 8)), some (.int 255), none, none, none, none, none], [.int (xs 6)], (mm_fw1 (mm_zi 64) (.inr (10, mm_fw1f30 (.int 0))) (mm_zi 12288) []))) 6 3000 rfl ?_
      refine mm_xif1 rfl false (mm_lt0 (a := (xs 6).toInt) (b := 0) rfl rfl (by omega)) rfl ?_
      refine mm_xk (S' := (55, [some (.ref 0), some (.int (xs 1)), some (.int (xs 2)), some (.int (xs 3)), some (.int (xs 4)), some (.int (xs 5)), some (.int (xs 6)), some (.int (xs 7)), some (.int (xs 8)), some (.int 255), none, none, none, none, none], [.int 255, .int (xs 6)], (mm_fw1 (mm_zi 64) (.inr (10, mm_fw1f30 (.int 0))) (mm_zi 12288) []))) 2 3000 rfl ?_
      refine mm_xif2 rfl false (mm_gt0 (a := (xs 6).toInt) (b := 255) rfl rfl (by omega)) rfl ?_
      refine mm_xk (S' := (60, [some (.ref 0), some (.int (xs 1)), some (.int (xs 2)), some (.int (xs 3)), some (.int (xs 4)), some (.int (xs 5)), some (.int (xs 6)), some (.int (xs 7)), some (.int (xs 8)), some (.int 255), none, none, none, none, none], [.int (xs 7)], (mm_fw1 (mm_zi 64) (.inr (10, mm_fw1f30 (.int 0))) (mm_zi 12288) []))) 1 3000 rfl ?_
      refine mm_xif1 rfl true (mm_lt1 (a := (xs 7).toInt) (b := 0) rfl rfl (by omega)) rfl ?_
      exact mm_xfn rfl
    refine mm_xk (S' := (27, [some (.ref 0), some (.int (xs 1)), some (.int (xs 2)), some (.int (xs 3)), some (.int (xs 4)), some (.int (xs 5)), some (.int (xs 6)), some (.int (xs 7)), some (.int (xs 8)), some (.ref 48)], [.int 2], (mm_fw1 (mm_zi 64) (.inr (10, mm_fw1f30 (.int 0))) (mm_zi 12288) [.inr (11, [])]))) 2 3000 rfl ?_
    exact mm_xfn rfl
  refine mm_xk (S' := (301, [some (.ref 1000004), some (.ref 0), some (.ref 30), some (.ref 47), some (.int 0), some (.int 2), none], [.int (xs 8), .int (xs 7), .int (xs 6), .int (xs 5), .int (xs 4), .int (xs 3), .int (xs 2), .int (xs 1), .ref 30], (mm_fw1 (mm_zi 64) (.inr (10, mm_fw1f30 (.int 0))) (mm_zi 12288) [.inr (11, [])]))) 42 3000 rfl ?_
  refine mm_xcl (v := none) (w1 := (mm_fw1 (mm_zi 64) (.inr (10, mm_fw1f30 (.int 2))) (mm_zi 12288) [.inr (11, [])])) rfl ?_ ?_
  · skip
    refine mm_xk (S' := (1, [some (.ref 30), some (.int (xs 1)), some (.int (xs 2)), some (.int (xs 3)), some (.int (xs 4)), some (.int (xs 5)), some (.int (xs 6)), some (.int (xs 7)), some (.int (xs 8)), none, none, none, none, none], [.int (xs 1)], (mm_fw1 (mm_zi 64) (.inr (10, mm_fw1f30 (.int 0))) (mm_zi 12288) [.inr (11, [])]))) 1 3000 rfl ?_
    refine mm_xif1 rfl false (mm_lt0 (a := (xs 1).toInt) (b := 0) rfl rfl (by omega)) rfl ?_
    refine mm_xk (S' := (9, [some (.ref 30), some (.int (xs 1)), some (.int (xs 2)), some (.int (xs 3)), some (.int (xs 4)), some (.int (xs 5)), some (.int (xs 6)), some (.int (xs 7)), some (.int (xs 8)), none, none, none, none, none], [.int 1, .int (xs 1)], (mm_fw1 (mm_zi 64) (.inr (10, mm_fw1f30 (.int 0))) (mm_zi 12288) [.inr (11, [])]))) 3 3000 rfl ?_
    refine mm_xif2 rfl false (mm_ge0 (a := (xs 1).toInt) (b := 1) rfl rfl (by omega)) rfl ?_
    refine mm_xk (S' := (14, [some (.ref 30), some (.int (xs 1)), some (.int (xs 2)), some (.int (xs 3)), some (.int (xs 4)), some (.int (xs 5)), some (.int (xs 6)), some (.int (xs 7)), some (.int (xs 8)), none, none, none, none, none], [.int (xs 4)], (mm_fw1 (mm_zi 64) (.inr (10, mm_fw1f30 (.int 0))) (mm_zi 12288) [.inr (11, [])]))) 1 3000 rfl ?_
    refine mm_xif1 rfl false (mm_le0 (a := (xs 4).toInt) (b := 0) rfl rfl (by omega)) rfl ?_
    refine mm_xk (S' := (19, [some (.ref 30), some (.int (xs 1)), some (.int (xs 2)), some (.int (xs 3)), some (.int (xs 4)), some (.int (xs 5)), some (.int (xs 6)), some (.int (xs 7)), some (.int (xs 8)), none, none, none, none, none], [.int (xs 5)], (mm_fw1 (mm_zi 64) (.inr (10, mm_fw1f30 (.int 0))) (mm_zi 12288) [.inr (11, [])]))) 1 3000 rfl ?_
    refine mm_xif1 rfl false (mm_le0 (a := (xs 5).toInt) (b := 0) rfl rfl (by omega)) rfl ?_
    refine mm_xk (S' := (23, [some (.ref 30), some (.int (xs 1)), some (.int (xs 2)), some (.int (xs 3)), some (.int (xs 4)), some (.int (xs 5)), some (.int (xs 6)), some (.int (xs 7)), some (.int (xs 8)), none, none, none, none, none], [.int (xs 2)], (mm_fw1 (mm_zi 64) (.inr (10, mm_fw1f30 (.int 0))) (mm_zi 12288) [.inr (11, [])]))) 1 3000 rfl ?_
    refine mm_xif1 rfl false (mm_lt0 (a := (xs 2).toInt) (b := 0) rfl rfl (by omega)) rfl ?_
    refine mm_xk (S' := (27, [some (.ref 30), some (.int (xs 1)), some (.int (xs 2)), some (.int (xs 3)), some (.int (xs 4)), some (.int (xs 5)), some (.int (xs 6)), some (.int (xs 7)), some (.int (xs 8)), none, none, none, none, none], [.int (xs 3)], (mm_fw1 (mm_zi 64) (.inr (10, mm_fw1f30 (.int 0))) (mm_zi 12288) [.inr (11, [])]))) 1 3000 rfl ?_
    refine mm_xif1 rfl false (mm_lt0 (a := (xs 3).toInt) (b := 0) rfl rfl (by omega)) rfl ?_
    refine mm_xk (S' := (35, [some (.ref 30), some (.int (xs 1)), some (.int (xs 2)), some (.int (xs 3)), some (.int (xs 4)), some (.int (xs 5)), some (.int (xs 6)), some (.int (xs 7)), some (.int (xs 8)), none, none, none, none, none], [.int 8, .int (xs 2)], (mm_fw1 (mm_zi 64) (.inr (10, mm_fw1f30 (.int 0))) (mm_zi 12288) [.inr (11, [])]))) 3 3000 rfl ?_
    refine mm_xif2 rfl false (mm_ge0 (a := (xs 2).toInt) (b := 8) rfl rfl (by omega)) rfl ?_
    refine mm_xk (S' := (43, [some (.ref 30), some (.int (xs 1)), some (.int (xs 2)), some (.int (xs 3)), some (.int (xs 4)), some (.int (xs 5)), some (.int (xs 6)), some (.int (xs 7)), some (.int (xs 8)), none, none, none, none, none], [.int 8, .int (xs 3)], (mm_fw1 (mm_zi 64) (.inr (10, mm_fw1f30 (.int 0))) (mm_zi 12288) [.inr (11, [])]))) 3 3000 rfl ?_
    refine mm_xif2 rfl false (mm_ge0 (a := (xs 3).toInt) (b := 8) rfl rfl (by omega)) rfl ?_
    refine mm_xk (S' := (54, [some (.ref 30), some (.int (xs 1)), some (.int (xs 2)), some (.int (xs 3)), some (.int (xs 4)), some (.int (xs 5)), some (.int (xs 6)), some (.int (xs 7)), some (.int (xs 8)), none, none, none, none, none], [.int (8 - xs 2), .int (xs 4)], (mm_fw1 (mm_zi 64) (.inr (10, mm_fw1f30 (.int 0))) (mm_zi 12288) [.inr (11, [])]))) 5 3000 rfl ?_
    refine mm_xif2 rfl false hc0 rfl ?_
    refine mm_xk (S' := (65, [some (.ref 30), some (.int (xs 1)), some (.int (xs 2)), some (.int (xs 3)), some (.int (xs 4)), some (.int (xs 5)), some (.int (xs 6)), some (.int (xs 7)), some (.int (xs 8)), none, none, none, none, none], [.int (8 - xs 3), .int (xs 5)], (mm_fw1 (mm_zi 64) (.inr (10, mm_fw1f30 (.int 0))) (mm_zi 12288) [.inr (11, [])]))) 5 3000 rfl ?_
    refine mm_xif2 rfl false hc1 rfl ?_
    refine mm_xk (S' := (92, [some (.ref 30), some (.int (xs 1)), some (.int (xs 2)), some (.int (xs 3)), some (.int (xs 4)), some (.int (xs 5)), some (.int (xs 6)), some (.int (xs 7)), some (.int (xs 8)), some (.int 1), none, none, none, none], [.int 255, .int 0, .int (xs 6), .ref 30], (mm_fw1 (mm_zi 64) (.inr (10, mm_fw1f30 (.int 0))) (mm_zi 12288) [.inr (11, [])]))) 10 3000 rfl ?_
    refine mm_xcl (v := (some (.int 1))) (w1 := (mm_fw1 (mm_zi 64) (.inr (10, mm_fw1f30 (.int 0))) (mm_zi 12288) [.inr (11, [])])) rfl ?_ ?_
    · skip
      refine mm_xk (S' := (2, [some (.int (xs 6)), some (.int 0), some (.int 255)], [.int 0, .int (xs 6)], (mm_fw1 (mm_zi 64) (.inr (10, mm_fw1f30 (.int 0))) (mm_zi 12288) [.inr (11, [])]))) 2 3000 rfl ?_
      refine mm_xif2 rfl false (mm_lt0 (a := (xs 6).toInt) (b := 0) rfl rfl (by omega)) rfl ?_
      refine mm_xk (S' := (7, [some (.int (xs 6)), some (.int 0), some (.int 255)], [.int 255, .int (xs 6)], (mm_fw1 (mm_zi 64) (.inr (10, mm_fw1f30 (.int 0))) (mm_zi 12288) [.inr (11, [])]))) 2 3000 rfl ?_
      refine mm_xif2 rfl false (mm_gt0 (a := (xs 6).toInt) (b := 255) rfl rfl (by omega)) rfl ?_
      refine mm_xk (S' := (15, [some (.int (xs 6)), some (.int 0), some (.int 255)], [.int 1], (mm_fw1 (mm_zi 64) (.inr (10, mm_fw1f30 (.int 0))) (mm_zi 12288) [.inr (11, [])]))) 2 3000 rfl ?_
      exact mm_xfn rfl
    refine mm_xk (S' := (105, [some (.ref 30), some (.int (xs 1)), some (.int (xs 2)), some (.int (xs 3)), some (.int (xs 4)), some (.int (xs 5)), some (.int (xs 6)), some (.int (xs 7)), some (.int (xs 8)), some (.int 1), none, none, none, none], [.int 255, .int 0, .int (xs 7), .ref 30], (mm_fw1 (mm_zi 64) (.inr (10, mm_fw1f30 (.int 0))) (mm_zi 12288) [.inr (11, [])]))) 5 3000 rfl ?_
    refine mm_xcl (v := (some (.int 0))) (w1 := (mm_fw1 (mm_zi 64) (.inr (10, mm_fw1f30 (.int 0))) (mm_zi 12288) [.inr (11, [])])) rfl ?_ ?_
    · skip
      refine mm_xk (S' := (2, [some (.int (xs 7)), some (.int 0), some (.int 255)], [.int 0, .int (xs 7)], (mm_fw1 (mm_zi 64) (.inr (10, mm_fw1f30 (.int 0))) (mm_zi 12288) [.inr (11, [])]))) 2 3000 rfl ?_
      refine mm_xif2 rfl true (mm_lt1 (a := (xs 7).toInt) (b := 0) rfl rfl (by omega)) rfl ?_
      refine mm_xk (S' := (15, [some (.int (xs 7)), some (.int 0), some (.int 255)], [.int 0], (mm_fw1 (mm_zi 64) (.inr (10, mm_fw1f30 (.int 0))) (mm_zi 12288) [.inr (11, [])]))) 1 3000 rfl ?_
      exact mm_xfn rfl
    refine mm_xk (S' := (130, [some (.ref 30), some (.int (xs 1)), some (.int (xs 2)), some (.int (xs 3)), some (.int (xs 4)), some (.int (xs 5)), some (.int (xs 6)), some (.int (xs 7)), some (.int (xs 8)), some (.int 1), none, none, none, none], [], (mm_fw1 (mm_zi 64) (.inr (10, mm_fw1f30 (.int 2))) (mm_zi 12288) [.inr (11, [])]))) 3 3000 rfl ?_
    refine mm_xk (S' := (137, [some (.ref 30), some (.int (xs 1)), some (.int (xs 2)), some (.int (xs 3)), some (.int (xs 4)), some (.int (xs 5)), some (.int (xs 6)), some (.int (xs 7)), some (.int (xs 8)), some (.int 1), none, none, none, none], [], (mm_fw1 (mm_zi 64) (.inr (10, mm_fw1f30 (.int 2))) (mm_zi 12288) [.inr (11, [])]))) 3 3000 rfl ?_
    exact mm_xfn rfl
  refine mm_xk (S' := (1092, [some (.ref 1000004), some (.ref 0), some (.ref 30), some (.ref 47), some (.int 9), some (.int 2), none], [], (mm_fw1 (mm_zi 64) (.inr (10, mm_fw1f30 (.int 2))) (mm_zi 12288) [.inr (11, [])]))) 6 3000 rfl ?_
  refine mm_xk (S' := (1096, [some (.ref 1000004), some (.ref 0), some (.ref 30), some (.ref 47), some (.int 9), some (.int 2), none], [.int 1], (mm_fw1 (mm_zi 64) (.inr (10, mm_fw1f30 (.int 2))) (mm_zi 12288) [.inr (11, [])]))) 8 3000 rfl ?_
  exact mm_xfn rfl
set_option maxRecDepth 100000 in
set_option maxHeartbeats 4000000 in
theorem mm_lf1_14 (xs : Nat → Int32) (l1 : 0 ≤ (xs 1).toInt) (u1 : (xs 1).toInt ≤ 0) (l2 : 0 ≤ (xs 2).toInt) (u2 : (xs 2).toInt ≤ 7) (l3 : 0 ≤ (xs 3).toInt) (u3 : (xs 3).toInt ≤ 7) (l4 : 1 ≤ (xs 4).toInt) (l5 : 1 ≤ (xs 5).toInt) (u6 : (xs 6).toInt ≤ -1) (hc0 : mm_cmp .gt (xs 4) (8 - xs 2) = false) (hc1 : mm_cmp .gt (xs 5) (8 - xs 3) = false) : mm_Ok xs 192 := by
  refine mm_Ok_of (w' := ((mm_w0.set 30 (.inr (10, (mm_f30.set 0 (.int 2))))) ++ [.inr (11, [])])) (mm_szP 6 (mm_szS 63 mm_sz0 rfl) rfl) rfl rfl ?_
  refine mm_xk (S' := (244, [some (.ref 1000004), some (.ref 0), some (.ref 30), some (.ref 47), some (.int 0), none, none], [.int (xs 8), .int (xs 7), .int (xs 6), .int (xs 5), .int (xs 4), .int (xs 3), .int (xs 2), .int (xs 1), .ref 0], (mm_fw1 (mm_zi 64) (.inr (10, mm_fw1f30 (.int 0))) (mm_zi 12288) []))) 41 3000 rfl ?_
  refine mm_xcl (v := (some (.int 2))) (w1 := (mm_fw1 (mm_zi 64) (.inr (10, mm_fw1f30 (.int 0))) (mm_zi 12288) [.inr (11, [])])) rfl ?_ ?_
  · skip
    refine mm_xk (S' := (14, [some (.ref 0), some (.int (xs 1)), some (.int (xs 2)), some (.int (xs 3)), some (.int (xs 4)), some (.int (xs 5)), some (.int (xs 6)), some (.int (xs 7)), some (.int (xs 8)), none], [.int (xs 8), .int (xs 7), .int (xs 6), .int (xs 5), .int (xs 4), .int (xs 3), .int (xs 2), .int (xs 1), .ref 0], (mm_fw1 (mm_zi 64) (.inr (10, mm_fw1f30 (.int 0))) (mm_zi 12288) []))) 9 3000 rfl ?_
    refine mm_xct (x := 11) (hp := 24) (w1 := (mm_fw1 (mm_zi 64) (.inr (10, mm_fw1f30 (.int 0))) (mm_zi 12288) [.inr (11, [])])) rfl ?_ rfl ?_
    · skip
      refine mm_xk (S' := (7, [some (.ref 0), some (.int (xs 1)), some (.int (xs 2)), some (.int (xs 3)), some (.int (xs 4)), some (.int (xs 5)), some (.int (xs 6)), some (.int (xs 7)), some (.int (xs 8)), none, none, none, none, none, none], [.int (xs 3), .int (xs 2), .int (xs 1), .ref 1], (mm_fw1 (mm_zi 64) (.inr (10, mm_fw1f30 (.int 0))) (mm_zi 12288) []))) 5 3000 rfl ?_
      refine mm_xcl (v := (some (.int 1))) (w1 := (mm_fw1 (mm_zi 64) (.inr (10, mm_fw1f30 (.int 0))) (mm_zi 12288) [])) rfl ?_ ?_
      · skip
        refine mm_xk (S' := (1, [some (.ref 1), some (.int (xs 1)), some (.int (xs 2)), some (.int (xs 3))], [.int (xs 1)], (mm_fw1 (mm_zi 64) (.inr (10, mm_fw1f30 (.int 0))) (mm_zi 12288) []))) 1 3000 rfl ?_
        refine mm_xif1 rfl false (mm_lt0 (a := (xs 1).toInt) (b := 0) rfl rfl (by omega)) rfl ?_
        refine mm_xk (S' := (9, [some (.ref 1), some (.int (xs 1)), some (.int (xs 2)), some (.int (xs 3))], [.int 1, .int (xs 1)], (mm_fw1 (mm_zi 64) (.inr (10, mm_fw1f30 (.int 0))) (mm_zi 12288) []))) 3 3000 rfl ?_
        refine mm_xif2 rfl false (mm_ge0 (a := (xs 1).toInt) (b := 1) rfl rfl (by omega)) rfl ?_
        refine mm_xk (S' := (13, [some (.ref 1), some (.int (xs 1)), some (.int (xs 2)), some (.int (xs 3))], [.int (xs 2)], (mm_fw1 (mm_zi 64) (.inr (10, mm_fw1f30 (.int 0))) (mm_zi 12288) []))) 1 3000 rfl ?_
        refine mm_xif1 rfl false (mm_lt0 (a := (xs 2).toInt) (b := 0) rfl rfl (by omega)) rfl ?_
        refine mm_xk (S' := (21, [some (.ref 1), some (.int (xs 1)), some (.int (xs 2)), some (.int (xs 3))], [.int 8, .int (xs 2)], (mm_fw1 (mm_zi 64) (.inr (10, mm_fw1f30 (.int 0))) (mm_zi 12288) []))) 3 3000 rfl ?_
        refine mm_xif2 rfl false (mm_ge0 (a := (xs 2).toInt) (b := 8) rfl rfl (by omega)) rfl ?_
        refine mm_xk (S' := (25, [some (.ref 1), some (.int (xs 1)), some (.int (xs 2)), some (.int (xs 3))], [.int (xs 3)], (mm_fw1 (mm_zi 64) (.inr (10, mm_fw1f30 (.int 0))) (mm_zi 12288) []))) 1 3000 rfl ?_
        refine mm_xif1 rfl false (mm_lt0 (a := (xs 3).toInt) (b := 0) rfl rfl (by omega)) rfl ?_
        refine mm_xk (S' := (33, [some (.ref 1), some (.int (xs 1)), some (.int (xs 2)), some (.int (xs 3))], [.int 8, .int (xs 3)], (mm_fw1 (mm_zi 64) (.inr (10, mm_fw1f30 (.int 0))) (mm_zi 12288) []))) 3 3000 rfl ?_
        refine mm_xif2 rfl false (mm_ge0 (a := (xs 3).toInt) (b := 8) rfl rfl (by omega)) rfl ?_
        refine mm_xk (S' := (41, [some (.ref 1), some (.int (xs 1)), some (.int (xs 2)), some (.int (xs 3))], [.int 1], (mm_fw1 (mm_zi 64) (.inr (10, mm_fw1f30 (.int 0))) (mm_zi 12288) []))) 2 3000 rfl ?_
        exact mm_xfn rfl
      refine mm_xk (S' := (23, [some (.ref 0), some (.int (xs 1)), some (.int (xs 2)), some (.int (xs 3)), some (.int (xs 4)), some (.int (xs 5)), some (.int (xs 6)), some (.int (xs 7)), some (.int (xs 8)), none, none, none, none, none, none], [.int (xs 5), .int (xs 4), .int (xs 3), .int (xs 2), .ref 1], (mm_fw1 (mm_zi 64) (.inr (10, mm_fw1f30 (.int 0))) (mm_zi 12288) []))) 7 3000 rfl ?_
      refine mm_xcl (v := (some (.int 1))) (w1 := (mm_fw1 (mm_zi 64) (.inr (10, mm_fw1f30 (.int 0))) (mm_zi 12288) [])) rfl ?_ ?_
      · skip
        refine mm_xk (S' := (2, [some (.ref 1), some (.int (xs 2)), some (.int (xs 3)), some (.int (xs 4)), some (.int (xs 5))], [.int 1, .int (xs 4)], (mm_fw1 (mm_zi 64) (.inr (10, mm_fw1f30 (.int 0))) (mm_zi 12288) []))) 2 3000 rfl ?_
        refine mm_xif2 rfl false (mm_lt0 (a := (xs 4).toInt) (b := 1) rfl rfl (by omega)) rfl ?_
        refine mm_xk (S' := (12, [some (.ref 1), some (.int (xs 2)), some (.int (xs 3)), some (.int (xs 4)), some (.int (xs 5))], [.int (8 - xs 2), .int (xs 4)], (mm_fw1 (mm_zi 64) (.inr (10, mm_fw1f30 (.int 0))) (mm_zi 12288) []))) 5 3000 rfl ?_
        refine mm_xif2 rfl false hc0 rfl ?_
        refine mm_xk (S' := (18, [some (.ref 1), some (.int (xs 2)), some (.int (xs 3)), some (.int (xs 4)), some (.int (xs 5))], [.int 1, .int (xs 5)], (mm_fw1 (mm_zi 64) (.inr (10, mm_fw1f30 (.int 0))) (mm_zi 12288) []))) 2 3000 rfl ?_
        refine mm_xif2 rfl false (mm_lt0 (a := (xs 5).toInt) (b := 1) rfl rfl (by omega)) rfl ?_
        refine mm_xk (S' := (29, [some (.ref 1), some (.int (xs 2)), some (.int (xs 3)), some (.int (xs 4)), some (.int (xs 5))], [.int (8 - xs 3), .int (xs 5)], (mm_fw1 (mm_zi 64) (.inr (10, mm_fw1f30 (.int 0))) (mm_zi 12288) []))) 5 3000 rfl ?_
        refine mm_xif2 rfl false hc1 rfl ?_
        refine mm_xk (S' := (37, [some (.ref 1), some (.int (xs 2)), some (.int (xs 3)), some (.int (xs 4)), some (.int (xs 5))], [.int 1], (mm_fw1 (mm_zi 64) (.inr (10, mm_fw1f30 (.int 0))) (mm_zi 12288) []))) 2 3000 rfl ?_
        exact mm_xfn rfl
      refine mm_xk (S' := (48, [some (.ref 0), some (.int (xs 1)), some (.int (xs 2)), some (.int (xs 3)), some (.int (xs 4)), some (.int (xs 5)), some (.int (xs 6)), some (.int (xs 7)), some (.int (xs 8)), some (.int 255), none, none, none, none, none], [.int (xs 6)], (mm_fw1 (mm_zi 64) (.inr (10, mm_fw1f30 (.int 0))) (mm_zi 12288) []))) 6 3000 rfl ?_
      refine mm_xif1 rfl true (mm_lt1 (a := (xs 6).toInt) (b := 0) rfl rfl (by omega)) rfl ?_
      exact mm_xfn rfl
    refine mm_xk (S' := (27, [some (.ref 0), some (.int (xs 1)), some (.int (xs 2)), some (.int (xs 3)), some (.int (xs 4)), some (.int (xs 5)), some (.int (xs 6)), some (.int (xs 7)), some (.int (xs 8)), some (.ref 48)], [.int 2], (mm_fw1 (mm_zi 64) (.inr (10, mm_fw1f30 (.int 0))) (mm_zi 12288) [.inr (11, [])]))) 2 3000 rfl ?_
    exact mm_xfn rfl
  refine mm_xk (S' := (301, [some (.ref 1000004), some (.ref 0), some (.ref 30), some (.ref 47), some (.int 0), some (.int 2), none], [.int (xs 8), .int (xs 7), .int (xs 6), .int (xs 5), .int (xs 4), .int (xs 3), .int (xs 2), .int (xs 1), .ref 30], (mm_fw1 (mm_zi 64) (.inr (10, mm_fw1f30 (.int 0))) (mm_zi 12288) [.inr (11, [])]))) 42 3000 rfl ?_
  refine mm_xcl (v := none) (w1 := (mm_fw1 (mm_zi 64) (.inr (10, mm_fw1f30 (.int 2))) (mm_zi 12288) [.inr (11, [])])) rfl ?_ ?_
  · skip
    refine mm_xk (S' := (1, [some (.ref 30), some (.int (xs 1)), some (.int (xs 2)), some (.int (xs 3)), some (.int (xs 4)), some (.int (xs 5)), some (.int (xs 6)), some (.int (xs 7)), some (.int (xs 8)), none, none, none, none, none], [.int (xs 1)], (mm_fw1 (mm_zi 64) (.inr (10, mm_fw1f30 (.int 0))) (mm_zi 12288) [.inr (11, [])]))) 1 3000 rfl ?_
    refine mm_xif1 rfl false (mm_lt0 (a := (xs 1).toInt) (b := 0) rfl rfl (by omega)) rfl ?_
    refine mm_xk (S' := (9, [some (.ref 30), some (.int (xs 1)), some (.int (xs 2)), some (.int (xs 3)), some (.int (xs 4)), some (.int (xs 5)), some (.int (xs 6)), some (.int (xs 7)), some (.int (xs 8)), none, none, none, none, none], [.int 1, .int (xs 1)], (mm_fw1 (mm_zi 64) (.inr (10, mm_fw1f30 (.int 0))) (mm_zi 12288) [.inr (11, [])]))) 3 3000 rfl ?_
    refine mm_xif2 rfl false (mm_ge0 (a := (xs 1).toInt) (b := 1) rfl rfl (by omega)) rfl ?_
    refine mm_xk (S' := (14, [some (.ref 30), some (.int (xs 1)), some (.int (xs 2)), some (.int (xs 3)), some (.int (xs 4)), some (.int (xs 5)), some (.int (xs 6)), some (.int (xs 7)), some (.int (xs 8)), none, none, none, none, none], [.int (xs 4)], (mm_fw1 (mm_zi 64) (.inr (10, mm_fw1f30 (.int 0))) (mm_zi 12288) [.inr (11, [])]))) 1 3000 rfl ?_
    refine mm_xif1 rfl false (mm_le0 (a := (xs 4).toInt) (b := 0) rfl rfl (by omega)) rfl ?_
    refine mm_xk (S' := (19, [some (.ref 30), some (.int (xs 1)), some (.int (xs 2)), some (.int (xs 3)), some (.int (xs 4)), some (.int (xs 5)), some (.int (xs 6)), some (.int (xs 7)), some (.int (xs 8)), none, none, none, none, none], [.int (xs 5)], (mm_fw1 (mm_zi 64) (.inr (10, mm_fw1f30 (.int 0))) (mm_zi 12288) [.inr (11, [])]))) 1 3000 rfl ?_
    refine mm_xif1 rfl false (mm_le0 (a := (xs 5).toInt) (b := 0) rfl rfl (by omega)) rfl ?_
    refine mm_xk (S' := (23, [some (.ref 30), some (.int (xs 1)), some (.int (xs 2)), some (.int (xs 3)), some (.int (xs 4)), some (.int (xs 5)), some (.int (xs 6)), some (.int (xs 7)), some (.int (xs 8)), none, none, none, none, none], [.int (xs 2)], (mm_fw1 (mm_zi 64) (.inr (10, mm_fw1f30 (.int 0))) (mm_zi 12288) [.inr (11, [])]))) 1 3000 rfl ?_
    refine mm_xif1 rfl false (mm_lt0 (a := (xs 2).toInt) (b := 0) rfl rfl (by omega)) rfl ?_
    refine mm_xk (S' := (27, [some (.ref 30), some (.int (xs 1)), some (.int (xs 2)), some (.int (xs 3)), some (.int (xs 4)), some (.int (xs 5)), some (.int (xs 6)), some (.int (xs 7)), some (.int (xs 8)), none, none, none, none, none], [.int (xs 3)], (mm_fw1 (mm_zi 64) (.inr (10, mm_fw1f30 (.int 0))) (mm_zi 12288) [.inr (11, [])]))) 1 3000 rfl ?_
    refine mm_xif1 rfl false (mm_lt0 (a := (xs 3).toInt) (b := 0) rfl rfl (by omega)) rfl ?_
    refine mm_xk (S' := (35, [some (.ref 30), some (.int (xs 1)), some (.int (xs 2)), some (.int (xs 3)), some (.int (xs 4)), some (.int (xs 5)), some (.int (xs 6)), some (.int (xs 7)), some (.int (xs 8)), none, none, none, none, none], [.int 8, .int (xs 2)], (mm_fw1 (mm_zi 64) (.inr (10, mm_fw1f30 (.int 0))) (mm_zi 12288) [.inr (11, [])]))) 3 3000 rfl ?_
    refine mm_xif2 rfl false (mm_ge0 (a := (xs 2).toInt) (b := 8) rfl rfl (by omega)) rfl ?_
    refine mm_xk (S' := (43, [some (.ref 30), some (.int (xs 1)), some (.int (xs 2)), some (.int (xs 3)), some (.int (xs 4)), some (.int (xs 5)), some (.int (xs 6)), some (.int (xs 7)), some (.int (xs 8)), none, none, none, none, none], [.int 8, .int (xs 3)], (mm_fw1 (mm_zi 64) (.inr (10, mm_fw1f30 (.int 0))) (mm_zi 12288) [.inr (11, [])]))) 3 3000 rfl ?_
    refine mm_xif2 rfl false (mm_ge0 (a := (xs 3).toInt) (b := 8) rfl rfl (by omega)) rfl ?_
    refine mm_xk (S' := (54, [some (.ref 30), some (.int (xs 1)), some (.int (xs 2)), some (.int (xs 3)), some (.int (xs 4)), some (.int (xs 5)), some (.int (xs 6)), some (.int (xs 7)), some (.int (xs 8)), none, none, none, none, none], [.int (8 - xs 2), .int (xs 4)], (mm_fw1 (mm_zi 64) (.inr (10, mm_fw1f30 (.int 0))) (mm_zi 12288) [.inr (11, [])]))) 5 3000 rfl ?_
    refine mm_xif2 rfl false hc0 rfl ?_
    refine mm_xk (S' := (65, [some (.ref 30), some (.int (xs 1)), some (.int (xs 2)), some (.int (xs 3)), some (.int (xs 4)), some (.int (xs 5)), some (.int (xs 6)), some (.int (xs 7)), some (.int (xs 8)), none, none, none, none, none], [.int (8 - xs 3), .int (xs 5)], (mm_fw1 (mm_zi 64) (.inr (10, mm_fw1f30 (.int 0))) (mm_zi 12288) [.inr (11, [])]))) 5 3000 rfl ?_
    refine mm_xif2 rfl false hc1 rfl ?_
    refine mm_xk (S' := (92, [some (.ref 30), some (.int (xs 1)), some (.int (xs 2)), some (.int (xs 3)), some (.int (xs 4)), some (.int (xs 5)), some (.int (xs 6)), some (.int (xs 7)), some (.int (xs 8)), some (.int 1), none, none, none, none], [.int 255, .int 0, .int (xs 6), .ref 30], (mm_fw1 (mm_zi 64) (.inr (10, mm_fw1f30 (.int 0))) (mm_zi 12288) [.inr (11, [])]))) 10 3000 rfl ?_
    refine mm_xcl (v := (some (.int 0))) (w1 := (mm_fw1 (mm_zi 64) (.inr (10, mm_fw1f30 (.int 0))) (mm_zi 12288) [.inr (11, [])])) rfl ?_ ?_
    · skip
      refine mm_xk (S' := (2, [some (.int (xs 6)), some (.int 0), some (.int 255)], [.int 0, .int (xs 6)], (mm_fw1 (mm_zi 64) (.inr (10, mm_fw1f30 (.int 0))) (mm_zi 12288) [.inr (11, [])]))) 2 3000 rfl ?_
      refine mm_xif2 rfl true (mm_lt1 (a := (xs 6).toInt) (b := 0) rfl rfl (by omega)) rfl ?_
      refine mm_xk (S' := (15, [some (.int (xs 6)), some (.int 0), some (.int 255)], [.int 0], (mm_fw1 (mm_zi 64) (.inr (10, mm_fw1f30 (.int 0))) (mm_zi 12288) [.inr (11, [])]))) 1 3000 rfl ?_
      exact mm_xfn rfl
    refine mm_xk (S' := (130, [some (.ref 30), some (.int (xs 1)), some (.int (xs 2)), some (.int (xs 3)), some (.int (xs 4)), some (.int (xs 5)), some (.int (xs 6)), some (.int (xs 7)), some (.int (xs 8)), some (.int 1), none, none, none, none], [], (mm_fw1 (mm_zi 64) (.inr (10, mm_fw1f30 (.int 2))) (mm_zi 12288) [.inr (11, [])]))) 3 3000 rfl ?_
    refine mm_xk (S' := (137, [some (.ref 30), some (.int (xs 1)), some (.int (xs 2)), some (.int (xs 3)), some (.int (xs 4)), some (.int (xs 5)), some (.int (xs 6)), some (.int (xs 7)), some (.int (xs 8)), some (.int 1), none, none, none, none], [], (mm_fw1 (mm_zi 64) (.inr (10, mm_fw1f30 (.int 2))) (mm_zi 12288) [.inr (11, [])]))) 3 3000 rfl ?_
    exact mm_xfn rfl
  refine mm_xk (S' := (1092, [some (.ref 1000004), some (.ref 0), some (.ref 30), some (.ref 47), some (.int 9), some (.int 2), none], [], (mm_fw1 (mm_zi 64) (.inr (10, mm_fw1f30 (.int 2))) (mm_zi 12288) [.inr (11, [])]))) 6 3000 rfl ?_
  refine mm_xk (S' := (1096, [some (.ref 1000004), some (.ref 0), some (.ref 30), some (.ref 47), some (.int 9), some (.int 2), none], [.int 1], (mm_fw1 (mm_zi 64) (.inr (10, mm_fw1f30 (.int 2))) (mm_zi 12288) [.inr (11, [])]))) 8 3000 rfl ?_
  exact mm_xfn rfl
set_option maxRecDepth 100000 in
set_option maxHeartbeats 4000000 in
theorem mm_lf1_15 (xs : Nat → Int32) (l1 : 0 ≤ (xs 1).toInt) (u1 : (xs 1).toInt ≤ 0) (l2 : 0 ≤ (xs 2).toInt) (u2 : (xs 2).toInt ≤ 7) (l3 : 0 ≤ (xs 3).toInt) (u3 : (xs 3).toInt ≤ 7) (l4 : 1 ≤ (xs 4).toInt) (l5 : 1 ≤ (xs 5).toInt) (hc0 : mm_cmp .gt (xs 4) (8 - xs 2) = false) (hc1 : mm_cmp .gt (xs 5) (8 - xs 3) = true) : mm_Ok xs 192 := by
  refine mm_Ok_of (w' := ((mm_w0.set 30 (.inr (10, (mm_f30.set 0 (.int 1))))) ++ [.inr (13, [])])) (mm_szP 6 (mm_szS 63 mm_sz0 rfl) rfl) rfl rfl ?_
  refine mm_xk (S' := (244, [some (.ref 1000004), some (.ref 0), some (.ref 30), some (.ref 47), some (.int 0), none, none], [.int (xs 8), .int (xs 7), .int (xs 6), .int (xs 5), .int (xs 4), .int (xs 3), .int (xs 2), .int (xs 1), .ref 0], (mm_fw1 (mm_zi 64) (.inr (10, mm_fw1f30 (.int 0))) (mm_zi 12288) []))) 41 3000 rfl ?_
  refine mm_xcl (v := (some (.int 1))) (w1 := (mm_fw1 (mm_zi 64) (.inr (10, mm_fw1f30 (.int 0))) (mm_zi 12288) [.inr (13, [])])) rfl ?_ ?_
  · skip
    refine mm_xk (S' := (14, [some (.ref 0), some (.int (xs 1)), some (.int (xs 2)), some (.int (xs 3)), some (.int (xs 4)), some (.int (xs 5)), some (.int (xs 6)), some (.int (xs 7)), some (.int (xs 8)), none], [.int (xs 8), .int (xs 7), .int (xs 6), .int (xs 5), .int (xs 4), .int (xs 3), .int (xs 2), .int (xs 1), .ref 0], (mm_fw1 (mm_zi 64) (.inr (10, mm_fw1f30 (.int 0))) (mm_zi 12288) []))) 9 3000 rfl ?_
    refine mm_xct (x := 13) (hp := 20) (w1 := (mm_fw1 (mm_zi 64) (.inr (10, mm_fw1f30 (.int 0))) (mm_zi 12288) [.inr (13, [])])) rfl ?_ rfl ?_
    · skip
      refine mm_xk (S' := (7, [some (.ref 0), some (.int (xs 1)), some (.int (xs 2)), some (.int (xs 3)), some (.int (xs 4)), some (.int (xs 5)), some (.int (xs 6)), some (.int (xs 7)), some (.int (xs 8)), none, none, none, none, none, none], [.int (xs 3), .int (xs 2), .int (xs 1), .ref 1], (mm_fw1 (mm_zi 64) (.inr (10, mm_fw1f30 (.int 0))) (mm_zi 12288) []))) 5 3000 rfl ?_
      refine mm_xcl (v := (some (.int 1))) (w1 := (mm_fw1 (mm_zi 64) (.inr (10, mm_fw1f30 (.int 0))) (mm_zi 12288) [])) rfl ?_ ?_
      · skip
        refine mm_xk (S' := (1, [some (.ref 1), some (.int (xs 1)), some (.int (xs 2)), some (.int (xs 3))], [.int (xs 1)], (mm_fw1 (mm_zi 64) (.inr (10, mm_fw1f30 (.int 0))) (mm_zi 12288) []))) 1 3000 rfl ?_
        refine mm_xif1 rfl false (mm_lt0 (a := (xs 1).toInt) (b := 0) rfl rfl (by omega)) rfl ?_
        refine mm_xk (S' := (9, [some (.ref 1), some (.int (xs 1)), some (.int (xs 2)), some (.int (xs 3))], [.int 1, .int (xs 1)], (mm_fw1 (mm_zi 64) (.inr (10, mm_fw1f30 (.int 0))) (mm_zi 12288) []))) 3 3000 rfl ?_
        refine mm_xif2 rfl false (mm_ge0 (a := (xs 1).toInt) (b := 1) rfl rfl (by omega)) rfl ?_
        refine mm_xk (S' := (13, [some (.ref 1), some (.int (xs 1)), some (.int (xs 2)), some (.int (xs 3))], [.int (xs 2)], (mm_fw1 (mm_zi 64) (.inr (10, mm_fw1f30 (.int 0))) (mm_zi 12288) []))) 1 3000 rfl ?_
        refine mm_xif1 rfl false (mm_lt0 (a := (xs 2).toInt) (b := 0) rfl rfl (by omega)) rfl ?_
        refine mm_xk (S' := (21, [some (.ref 1), some (.int (xs 1)), some (.int (xs 2)), some (.int (xs 3))], [.int 8, .int (xs 2)], (mm_fw1 (mm_zi 64) (.inr (10, mm_fw1f30 (.int 0))) (mm_zi 12288) []))) 3 3000 rfl ?_
        refine mm_xif2 rfl false (mm_ge0 (a := (xs 2).toInt) (b := 8) rfl rfl (by omega)) rfl ?_
        refine mm_xk (S' := (25, [some (.ref 1), some (.int (xs 1)), some (.int (xs 2)), some (.int (xs 3))], [.int (xs 3)], (mm_fw1 (mm_zi 64) (.inr (10, mm_fw1f30 (.int 0))) (mm_zi 12288) []))) 1 3000 rfl ?_
        refine mm_xif1 rfl false (mm_lt0 (a := (xs 3).toInt) (b := 0) rfl rfl (by omega)) rfl ?_
        refine mm_xk (S' := (33, [some (.ref 1), some (.int (xs 1)), some (.int (xs 2)), some (.int (xs 3))], [.int 8, .int (xs 3)], (mm_fw1 (mm_zi 64) (.inr (10, mm_fw1f30 (.int 0))) (mm_zi 12288) []))) 3 3000 rfl ?_
        refine mm_xif2 rfl false (mm_ge0 (a := (xs 3).toInt) (b := 8) rfl rfl (by omega)) rfl ?_
        refine mm_xk (S' := (41, [some (.ref 1), some (.int (xs 1)), some (.int (xs 2)), some (.int (xs 3))], [.int 1], (mm_fw1 (mm_zi 64) (.inr (10, mm_fw1f30 (.int 0))) (mm_zi 12288) []))) 2 3000 rfl ?_
        exact mm_xfn rfl
      refine mm_xk (S' := (23, [some (.ref 0), some (.int (xs 1)), some (.int (xs 2)), some (.int (xs 3)), some (.int (xs 4)), some (.int (xs 5)), some (.int (xs 6)), some (.int (xs 7)), some (.int (xs 8)), none, none, none, none, none, none], [.int (xs 5), .int (xs 4), .int (xs 3), .int (xs 2), .ref 1], (mm_fw1 (mm_zi 64) (.inr (10, mm_fw1f30 (.int 0))) (mm_zi 12288) []))) 7 3000 rfl ?_
      refine mm_xcl (v := (some (.int 0))) (w1 := (mm_fw1 (mm_zi 64) (.inr (10, mm_fw1f30 (.int 0))) (mm_zi 12288) [])) rfl ?_ ?_
      · skip
        refine mm_xk (S' := (2, [some (.ref 1), some (.int (xs 2)), some (.int (xs 3)), some (.int (xs 4)), some (.int (xs 5))], [.int 1, .int (xs 4)], (mm_fw1 (mm_zi 64) (.inr (10, mm_fw1f30 (.int 0))) (mm_zi 12288) []))) 2 3000 rfl ?_
        refine mm_xif2 rfl false (mm_lt0 (a := (xs 4).toInt) (b := 1) rfl rfl (by omega)) rfl ?_
        refine mm_xk (S' := (12, [some (.ref 1), some (.int (xs 2)), some (.int (xs 3)), some (.int (xs 4)), some (.int (xs 5))], [.int (8 - xs 2), .int (xs 4)], (mm_fw1 (mm_zi 64) (.inr (10, mm_fw1f30 (.int 0))) (mm_zi 12288) []))) 5 3000 rfl ?_
        refine mm_xif2 rfl false hc0 rfl ?_
        refine mm_xk (S' := (18, [some (.ref 1), some (.int (xs 2)), some (.int (xs 3)), some (.int (xs 4)), some (.int (xs 5))], [.int 1, .int (xs 5)], (mm_fw1 (mm_zi 64) (.inr (10, mm_fw1f30 (.int 0))) (mm_zi 12288) []))) 2 3000 rfl ?_
        refine mm_xif2 rfl false (mm_lt0 (a := (xs 5).toInt) (b := 1) rfl rfl (by omega)) rfl ?_
        refine mm_xk (S' := (29, [some (.ref 1), some (.int (xs 2)), some (.int (xs 3)), some (.int (xs 4)), some (.int (xs 5))], [.int (8 - xs 3), .int (xs 5)], (mm_fw1 (mm_zi 64) (.inr (10, mm_fw1f30 (.int 0))) (mm_zi 12288) []))) 5 3000 rfl ?_
        refine mm_xif2 rfl true hc1 rfl ?_
        refine mm_xk (S' := (37, [some (.ref 1), some (.int (xs 2)), some (.int (xs 3)), some (.int (xs 4)), some (.int (xs 5))], [.int 0], (mm_fw1 (mm_zi 64) (.inr (10, mm_fw1f30 (.int 0))) (mm_zi 12288) []))) 1 3000 rfl ?_
        exact mm_xfn rfl
      refine mm_xk (S' := (29, [some (.ref 0), some (.int (xs 1)), some (.int (xs 2)), some (.int (xs 3)), some (.int (xs 4)), some (.int (xs 5)), some (.int (xs 6)), some (.int (xs 7)), some (.int (xs 8)), none, none, none, none, none, none], [], (mm_fw1 (mm_zi 64) (.inr (10, mm_fw1f30 (.int 0))) (mm_zi 12288) []))) 1 3000 rfl ?_
      exact mm_xfn rfl
    refine mm_xk (S' := (23, [some (.ref 0), some (.int (xs 1)), some (.int (xs 2)), some (.int (xs 3)), some (.int (xs 4)), some (.int (xs 5)), some (.int (xs 6)), some (.int (xs 7)), some (.int (xs 8)), some (.ref 48)], [.int 1], (mm_fw1 (mm_zi 64) (.inr (10, mm_fw1f30 (.int 0))) (mm_zi 12288) [.inr (13, [])]))) 2 3000 rfl ?_
    exact mm_xfn rfl
  refine mm_xk (S' := (301, [some (.ref 1000004), some (.ref 0), some (.ref 30), some (.ref 47), some (.int 0), some (.int 1), none], [.int (xs 8), .int (xs 7), .int (xs 6), .int (xs 5), .int (xs 4), .int (xs 3), .int (xs 2), .int (xs 1), .ref 30], (mm_fw1 (mm_zi 64) (.inr (10, mm_fw1f30 (.int 0))) (mm_zi 12288) [.inr (13, [])]))) 42 3000 rfl ?_
  refine mm_xcl (v := none) (w1 := (mm_fw1 (mm_zi 64) (.inr (10, mm_fw1f30 (.int 1))) (mm_zi 12288) [.inr (13, [])])) rfl ?_ ?_
  · skip
    refine mm_xk (S' := (1, [some (.ref 30), some (.int (xs 1)), some (.int (xs 2)), some (.int (xs 3)), some (.int (xs 4)), some (.int (xs 5)), some (.int (xs 6)), some (.int (xs 7)), some (.int (xs 8)), none, none, none, none, none], [.int (xs 1)], (mm_fw1 (mm_zi 64) (.inr (10, mm_fw1f30 (.int 0))) (mm_zi 12288) [.inr (13, [])]))) 1 3000 rfl ?_
    refine mm_xif1 rfl false (mm_lt0 (a := (xs 1).toInt) (b := 0) rfl rfl (by omega)) rfl ?_
    refine mm_xk (S' := (9, [some (.ref 30), some (.int (xs 1)), some (.int (xs 2)), some (.int (xs 3)), some (.int (xs 4)), some (.int (xs 5)), some (.int (xs 6)), some (.int (xs 7)), some (.int (xs 8)), none, none, none, none, none], [.int 1, .int (xs 1)], (mm_fw1 (mm_zi 64) (.inr (10, mm_fw1f30 (.int 0))) (mm_zi 12288) [.inr (13, [])]))) 3 3000 rfl ?_
    refine mm_xif2 rfl false (mm_ge0 (a := (xs 1).toInt) (b := 1) rfl rfl (by omega)) rfl ?_
    refine mm_xk (S' := (14, [some (.ref 30), some (.int (xs 1)), some (.int (xs 2)), some (.int (xs 3)), some (.int (xs 4)), some (.int (xs 5)), some (.int (xs 6)), some (.int (xs 7)), some (.int (xs 8)), none, none, none, none, none], [.int (xs 4)], (mm_fw1 (mm_zi 64) (.inr (10, mm_fw1f30 (.int 0))) (mm_zi 12288) [.inr (13, [])]))) 1 3000 rfl ?_
    refine mm_xif1 rfl false (mm_le0 (a := (xs 4).toInt) (b := 0) rfl rfl (by omega)) rfl ?_
    refine mm_xk (S' := (19, [some (.ref 30), some (.int (xs 1)), some (.int (xs 2)), some (.int (xs 3)), some (.int (xs 4)), some (.int (xs 5)), some (.int (xs 6)), some (.int (xs 7)), some (.int (xs 8)), none, none, none, none, none], [.int (xs 5)], (mm_fw1 (mm_zi 64) (.inr (10, mm_fw1f30 (.int 0))) (mm_zi 12288) [.inr (13, [])]))) 1 3000 rfl ?_
    refine mm_xif1 rfl false (mm_le0 (a := (xs 5).toInt) (b := 0) rfl rfl (by omega)) rfl ?_
    refine mm_xk (S' := (23, [some (.ref 30), some (.int (xs 1)), some (.int (xs 2)), some (.int (xs 3)), some (.int (xs 4)), some (.int (xs 5)), some (.int (xs 6)), some (.int (xs 7)), some (.int (xs 8)), none, none, none, none, none], [.int (xs 2)], (mm_fw1 (mm_zi 64) (.inr (10, mm_fw1f30 (.int 0))) (mm_zi 12288) [.inr (13, [])]))) 1 3000 rfl ?_
    refine mm_xif1 rfl false (mm_lt0 (a := (xs 2).toInt) (b := 0) rfl rfl (by omega)) rfl ?_
    refine mm_xk (S' := (27, [some (.ref 30), some (.int (xs 1)), some (.int (xs 2)), some (.int (xs 3)), some (.int (xs 4)), some (.int (xs 5)), some (.int (xs 6)), some (.int (xs 7)), some (.int (xs 8)), none, none, none, none, none], [.int (xs 3)], (mm_fw1 (mm_zi 64) (.inr (10, mm_fw1f30 (.int 0))) (mm_zi 12288) [.inr (13, [])]))) 1 3000 rfl ?_
    refine mm_xif1 rfl false (mm_lt0 (a := (xs 3).toInt) (b := 0) rfl rfl (by omega)) rfl ?_
    refine mm_xk (S' := (35, [some (.ref 30), some (.int (xs 1)), some (.int (xs 2)), some (.int (xs 3)), some (.int (xs 4)), some (.int (xs 5)), some (.int (xs 6)), some (.int (xs 7)), some (.int (xs 8)), none, none, none, none, none], [.int 8, .int (xs 2)], (mm_fw1 (mm_zi 64) (.inr (10, mm_fw1f30 (.int 0))) (mm_zi 12288) [.inr (13, [])]))) 3 3000 rfl ?_
    refine mm_xif2 rfl false (mm_ge0 (a := (xs 2).toInt) (b := 8) rfl rfl (by omega)) rfl ?_
    refine mm_xk (S' := (43, [some (.ref 30), some (.int (xs 1)), some (.int (xs 2)), some (.int (xs 3)), some (.int (xs 4)), some (.int (xs 5)), some (.int (xs 6)), some (.int (xs 7)), some (.int (xs 8)), none, none, none, none, none], [.int 8, .int (xs 3)], (mm_fw1 (mm_zi 64) (.inr (10, mm_fw1f30 (.int 0))) (mm_zi 12288) [.inr (13, [])]))) 3 3000 rfl ?_
    refine mm_xif2 rfl false (mm_ge0 (a := (xs 3).toInt) (b := 8) rfl rfl (by omega)) rfl ?_
    refine mm_xk (S' := (54, [some (.ref 30), some (.int (xs 1)), some (.int (xs 2)), some (.int (xs 3)), some (.int (xs 4)), some (.int (xs 5)), some (.int (xs 6)), some (.int (xs 7)), some (.int (xs 8)), none, none, none, none, none], [.int (8 - xs 2), .int (xs 4)], (mm_fw1 (mm_zi 64) (.inr (10, mm_fw1f30 (.int 0))) (mm_zi 12288) [.inr (13, [])]))) 5 3000 rfl ?_
    refine mm_xif2 rfl false hc0 rfl ?_
    refine mm_xk (S' := (65, [some (.ref 30), some (.int (xs 1)), some (.int (xs 2)), some (.int (xs 3)), some (.int (xs 4)), some (.int (xs 5)), some (.int (xs 6)), some (.int (xs 7)), some (.int (xs 8)), none, none, none, none, none], [.int (8 - xs 3), .int (xs 5)], (mm_fw1 (mm_zi 64) (.inr (10, mm_fw1f30 (.int 0))) (mm_zi 12288) [.inr (13, [])]))) 5 3000 rfl ?_
    refine mm_xif2 rfl true hc1 rfl ?_
    refine mm_xk (S' := (130, [some (.ref 30), some (.int (xs 1)), some (.int (xs 2)), some (.int (xs 3)), some (.int (xs 4)), some (.int (xs 5)), some (.int (xs 6)), some (.int (xs 7)), some (.int (xs 8)), some (.int 0), none, none, none, none], [], (mm_fw1 (mm_zi 64) (.inr (10, mm_fw1f30 (.int 1))) (mm_zi 12288) [.inr (13, [])]))) 8 3000 rfl ?_
    refine mm_xk (S' := (137, [some (.ref 30), some (.int (xs 1)), some (.int (xs 2)), some (.int (xs 3)), some (.int (xs 4)), some (.int (xs 5)), some (.int (xs 6)), some (.int (xs 7)), some (.int (xs 8)), some (.int 0), none, none, none, none], [], (mm_fw1 (mm_zi 64) (.inr (10, mm_fw1f30 (.int 1))) (mm_zi 12288) [.inr (13, [])]))) 3 3000 rfl ?_
    exact mm_xfn rfl
  refine mm_xk (S' := (1092, [some (.ref 1000004), some (.ref 0), some (.ref 30), some (.ref 47), some (.int 9), some (.int 1), none], [], (mm_fw1 (mm_zi 64) (.inr (10, mm_fw1f30 (.int 1))) (mm_zi 12288) [.inr (13, [])]))) 6 3000 rfl ?_
  refine mm_xk (S' := (1096, [some (.ref 1000004), some (.ref 0), some (.ref 30), some (.ref 47), some (.int 9), some (.int 1), none], [.int 1], (mm_fw1 (mm_zi 64) (.inr (10, mm_fw1f30 (.int 1))) (mm_zi 12288) [.inr (13, [])]))) 8 3000 rfl ?_
  exact mm_xfn rfl
set_option maxRecDepth 100000 in
set_option maxHeartbeats 4000000 in
theorem mm_lf1_16 (xs : Nat → Int32) (l1 : 0 ≤ (xs 1).toInt) (u1 : (xs 1).toInt ≤ 0) (l2 : 0 ≤ (xs 2).toInt) (u2 : (xs 2).toInt ≤ 7) (l3 : 0 ≤ (xs 3).toInt) (u3 : (xs 3).toInt ≤ 7) (l4 : 1 ≤ (xs 4).toInt) (u5 : (xs 5).toInt ≤ 0) (hc0 : mm_cmp .gt (xs 4) (8 - xs 2) = false) : mm_Ok xs 192 := by
  refine mm_Ok_of (w' := ((mm_w0.set 30 (.inr (10, (mm_f30.set 0 (.int 1))))) ++ [.inr (13, [])])) (mm_szP 6 (mm_szS 63 mm_sz0 rfl) rfl) rfl rfl ?_
  refine mm_xk (S' := (244, [some (.ref 1000004), some (.ref 0), some (.ref 30), some (.ref 47), some (.int 0), none, none], [.int (xs 8), .int (xs 7), .int (xs 6), .int (xs 5), .int (xs 4), .int (xs 3), .int (xs 2), .int (xs 1), .ref 0], (mm_fw1 (mm_zi 64) (.inr (10, mm_fw1f30 (.int 0))) (mm_zi 12288) []))) 41 3000 rfl ?_
  refine mm_xcl (v := (some (.int 1))) (w1 := (mm_fw1 (mm_zi 64) (.inr (10, mm_fw1f30 (.int 0))) (mm_zi 12288) [.inr (13, [])])) rfl ?_ ?_
  · skip
    refine mm_xk (S' := (14, [some (.ref 0), some (.int (xs 1)), some (.int (xs 2)), some (.int (xs 3)), some (.int (xs 4)), some (.int (xs 5)), some (.int (xs 6)), some (.int (xs 7)), some (.int (xs 8)), none], [.int (xs 8), .int (xs 7), .int (xs 6), .int (xs 5), .int (xs 4), .int (xs 3), .int (xs 2), .int (xs 1), .ref 0], (mm_fw1 (mm_zi 64) (.inr (10, mm_fw1f30 (.int 0))) (mm_zi 12288) []))) 9 3000 rfl ?_
    refine mm_xct (x := 13) (hp := 20) (w1 := (mm_fw1 (mm_zi 64) (.inr (10, mm_fw1f30 (.int 0))) (mm_zi 12288) [.inr (13, [])])) rfl ?_ rfl ?_
    · skip
      refine mm_xk (S' := (7, [some (.ref 0), some (.int (xs 1)), some (.int (xs 2)), some (.int (xs 3)), some (.int (xs 4)), some (.int (xs 5)), some (.int (xs 6)), some (.int (xs 7)), some (.int (xs 8)), none, none, none, none, none, none], [.int (xs 3), .int (xs 2), .int (xs 1), .ref 1], (mm_fw1 (mm_zi 64) (.inr (10, mm_fw1f30 (.int 0))) (mm_zi 12288) []))) 5 3000 rfl ?_
      refine mm_xcl (v := (some (.int 1))) (w1 := (mm_fw1 (mm_zi 64) (.inr (10, mm_fw1f30 (.int 0))) (mm_zi 12288) [])) rfl ?_ ?_
      · skip
        refine mm_xk (S' := (1, [some (.ref 1), some (.int (xs 1)), some (.int (xs 2)), some (.int (xs 3))], [.int (xs 1)], (mm_fw1 (mm_zi 64) (.inr (10, mm_fw1f30 (.int 0))) (mm_zi 12288) []))) 1 3000 rfl ?_
        refine mm_xif1 rfl false (mm_lt0 (a := (xs 1).toInt) (b := 0) rfl rfl (by omega)) rfl ?_
        refine mm_xk (S' := (9, [some (.ref 1), some (.int (xs 1)), some (.int (xs 2)), some (.int (xs 3))], [.int 1, .int (xs 1)], (mm_fw1 (mm_zi 64) (.inr (10, mm_fw1f30 (.int 0))) (mm_zi 12288) []))) 3 3000 rfl ?_
        refine mm_xif2 rfl false (mm_ge0 (a := (xs 1).toInt) (b := 1) rfl rfl (by omega)) rfl ?_
        refine mm_xk (S' := (13, [some (.ref 1), some (.int (xs 1)), some (.int (xs 2)), some (.int (xs 3))], [.int (xs 2)], (mm_fw1 (mm_zi 64) (.inr (10, mm_fw1f30 (.int 0))) (mm_zi 12288) []))) 1 3000 rfl ?_
        refine mm_xif1 rfl false (mm_lt0 (a := (xs 2).toInt) (b := 0) rfl rfl (by omega)) rfl ?_
        refine mm_xk (S' := (21, [some (.ref 1), some (.int (xs 1)), some (.int (xs 2)), some (.int (xs 3))], [.int 8, .int (xs 2)], (mm_fw1 (mm_zi 64) (.inr (10, mm_fw1f30 (.int 0))) (mm_zi 12288) []))) 3 3000 rfl ?_
        refine mm_xif2 rfl false (mm_ge0 (a := (xs 2).toInt) (b := 8) rfl rfl (by omega)) rfl ?_
        refine mm_xk (S' := (25, [some (.ref 1), some (.int (xs 1)), some (.int (xs 2)), some (.int (xs 3))], [.int (xs 3)], (mm_fw1 (mm_zi 64) (.inr (10, mm_fw1f30 (.int 0))) (mm_zi 12288) []))) 1 3000 rfl ?_
        refine mm_xif1 rfl false (mm_lt0 (a := (xs 3).toInt) (b := 0) rfl rfl (by omega)) rfl ?_
        refine mm_xk (S' := (33, [some (.ref 1), some (.int (xs 1)), some (.int (xs 2)), some (.int (xs 3))], [.int 8, .int (xs 3)], (mm_fw1 (mm_zi 64) (.inr (10, mm_fw1f30 (.int 0))) (mm_zi 12288) []))) 3 3000 rfl ?_
        refine mm_xif2 rfl false (mm_ge0 (a := (xs 3).toInt) (b := 8) rfl rfl (by omega)) rfl ?_
        refine mm_xk (S' := (41, [some (.ref 1), some (.int (xs 1)), some (.int (xs 2)), some (.int (xs 3))], [.int 1], (mm_fw1 (mm_zi 64) (.inr (10, mm_fw1f30 (.int 0))) (mm_zi 12288) []))) 2 3000 rfl ?_
        exact mm_xfn rfl
      refine mm_xk (S' := (23, [some (.ref 0), some (.int (xs 1)), some (.int (xs 2)), some (.int (xs 3)), some (.int (xs 4)), some (.int (xs 5)), some (.int (xs 6)), some (.int (xs 7)), some (.int (xs 8)), none, none, none, none, none, none], [.int (xs 5), .int (xs 4), .int (xs 3), .int (xs 2), .ref 1], (mm_fw1 (mm_zi 64) (.inr (10, mm_fw1f30 (.int 0))) (mm_zi 12288) []))) 7 3000 rfl ?_
      refine mm_xcl (v := (some (.int 0))) (w1 := (mm_fw1 (mm_zi 64) (.inr (10, mm_fw1f30 (.int 0))) (mm_zi 12288) [])) rfl ?_ ?_
      · skip
        refine mm_xk (S' := (2, [some (.ref 1), some (.int (xs 2)), some (.int (xs 3)), some (.int (xs 4)), some (.int (xs 5))], [.int 1, .int (xs 4)], (mm_fw1 (mm_zi 64) (.inr (10, mm_fw1f30 (.int 0))) (mm_zi 12288) []))) 2 3000 rfl ?_
        refine mm_xif2 rfl false (mm_lt0 (a := (xs 4).toInt) (b := 1) rfl rfl (by omega)) rfl ?_
        refine mm_xk (S' := (12, [some (.ref 1), some (.int (xs 2)), some (.int (xs 3)), some (.int (xs 4)), some (.int (xs 5))], [.int (8 - xs 2), .int (xs 4)], (mm_fw1 (mm_zi 64) (.inr (10, mm_fw1f30 (.int 0))) (mm_zi 12288) []))) 5 3000 rfl ?_
        refine mm_xif2 rfl false hc0 rfl ?_
        refine mm_xk (S' := (18, [some (.ref 1), some (.int (xs 2)), some (.int (xs 3)), some (.int (xs 4)), some (.int (xs 5))], [.int 1, .int (xs 5)], (mm_fw1 (mm_zi 64) (.inr (10, mm_fw1f30 (.int 0))) (mm_zi 12288) []))) 2 3000 rfl ?_
        refine mm_xif2 rfl true (mm_lt1 (a := (xs 5).toInt) (b := 1) rfl rfl (by omega)) rfl ?_
        refine mm_xk (S' := (37, [some (.ref 1), some (.int (xs 2)), some (.int (xs 3)), some (.int (xs 4)), some (.int (xs 5))], [.int 0], (mm_fw1 (mm_zi 64) (.inr (10, mm_fw1f30 (.int 0))) (mm_zi 12288) []))) 1 3000 rfl ?_
        exact mm_xfn rfl
      refine mm_xk (S' := (29, [some (.ref 0), some (.int (xs 1)), some (.int (xs 2)), some (.int (xs 3)), some (.int (xs 4)), some (.int (xs 5)), some (.int (xs 6)), some (.int (xs 7)), some (.int (xs 8)), none, none, none, none, none, none], [], (mm_fw1 (mm_zi 64) (.inr (10, mm_fw1f30 (.int 0))) (mm_zi 12288) []))) 1 3000 rfl ?_
      exact mm_xfn rfl
    refine mm_xk (S' := (23, [some (.ref 0), some (.int (xs 1)), some (.int (xs 2)), some (.int (xs 3)), some (.int (xs 4)), some (.int (xs 5)), some (.int (xs 6)), some (.int (xs 7)), some (.int (xs 8)), some (.ref 48)], [.int 1], (mm_fw1 (mm_zi 64) (.inr (10, mm_fw1f30 (.int 0))) (mm_zi 12288) [.inr (13, [])]))) 2 3000 rfl ?_
    exact mm_xfn rfl
  refine mm_xk (S' := (301, [some (.ref 1000004), some (.ref 0), some (.ref 30), some (.ref 47), some (.int 0), some (.int 1), none], [.int (xs 8), .int (xs 7), .int (xs 6), .int (xs 5), .int (xs 4), .int (xs 3), .int (xs 2), .int (xs 1), .ref 30], (mm_fw1 (mm_zi 64) (.inr (10, mm_fw1f30 (.int 0))) (mm_zi 12288) [.inr (13, [])]))) 42 3000 rfl ?_
  refine mm_xcl (v := none) (w1 := (mm_fw1 (mm_zi 64) (.inr (10, mm_fw1f30 (.int 1))) (mm_zi 12288) [.inr (13, [])])) rfl ?_ ?_
  · skip
    refine mm_xk (S' := (1, [some (.ref 30), some (.int (xs 1)), some (.int (xs 2)), some (.int (xs 3)), some (.int (xs 4)), some (.int (xs 5)), some (.int (xs 6)), some (.int (xs 7)), some (.int (xs 8)), none, none, none, none, none], [.int (xs 1)], (mm_fw1 (mm_zi 64) (.inr (10, mm_fw1f30 (.int 0))) (mm_zi 12288) [.inr (13, [])]))) 1 3000 rfl ?_
    refine mm_xif1 rfl false (mm_lt0 (a := (xs 1).toInt) (b := 0) rfl rfl (by omega)) rfl ?_
    refine mm_xk (S' := (9, [some (.ref 30), some (.int (xs 1)), some (.int (xs 2)), some (.int (xs 3)), some (.int (xs 4)), some (.int (xs 5)), some (.int (xs 6)), some (.int (xs 7)), some (.int (xs 8)), none, none, none, none, none], [.int 1, .int (xs 1)], (mm_fw1 (mm_zi 64) (.inr (10, mm_fw1f30 (.int 0))) (mm_zi 12288) [.inr (13, [])]))) 3 3000 rfl ?_
    refine mm_xif2 rfl false (mm_ge0 (a := (xs 1).toInt) (b := 1) rfl rfl (by omega)) rfl ?_
    refine mm_xk (S' := (14, [some (.ref 30), some (.int (xs 1)), some (.int (xs 2)), some (.int (xs 3)), some (.int (xs 4)), some (.int (xs 5)), some (.int (xs 6)), some (.int (xs 7)), some (.int (xs 8)), none, none, none, none, none], [.int (xs 4)], (mm_fw1 (mm_zi 64) (.inr (10, mm_fw1f30 (.int 0))) (mm_zi 12288) [.inr (13, [])]))) 1 3000 rfl ?_
    refine mm_xif1 rfl false (mm_le0 (a := (xs 4).toInt) (b := 0) rfl rfl (by omega)) rfl ?_
    refine mm_xk (S' := (19, [some (.ref 30), some (.int (xs 1)), some (.int (xs 2)), some (.int (xs 3)), some (.int (xs 4)), some (.int (xs 5)), some (.int (xs 6)), some (.int (xs 7)), some (.int (xs 8)), none, none, none, none, none], [.int (xs 5)], (mm_fw1 (mm_zi 64) (.inr (10, mm_fw1f30 (.int 0))) (mm_zi 12288) [.inr (13, [])]))) 1 3000 rfl ?_
    refine mm_xif1 rfl true (mm_le1 (a := (xs 5).toInt) (b := 0) rfl rfl (by omega)) rfl ?_
    refine mm_xk (S' := (130, [some (.ref 30), some (.int (xs 1)), some (.int (xs 2)), some (.int (xs 3)), some (.int (xs 4)), some (.int (xs 5)), some (.int (xs 6)), some (.int (xs 7)), some (.int (xs 8)), some (.int 0), none, none, none, none], [], (mm_fw1 (mm_zi 64) (.inr (10, mm_fw1f30 (.int 1))) (mm_zi 12288) [.inr (13, [])]))) 8 3000 rfl ?_
    refine mm_xk (S' := (137, [some (.ref 30), some (.int (xs 1)), some (.int (xs 2)), some (.int (xs 3)), some (.int (xs 4)), some (.int (xs 5)), some (.int (xs 6)), some (.int (xs 7)), some (.int (xs 8)), some (.int 0), none, none, none, none], [], (mm_fw1 (mm_zi 64) (.inr (10, mm_fw1f30 (.int 1))) (mm_zi 12288) [.inr (13, [])]))) 3 3000 rfl ?_
    exact mm_xfn rfl
  refine mm_xk (S' := (1092, [some (.ref 1000004), some (.ref 0), some (.ref 30), some (.ref 47), some (.int 9), some (.int 1), none], [], (mm_fw1 (mm_zi 64) (.inr (10, mm_fw1f30 (.int 1))) (mm_zi 12288) [.inr (13, [])]))) 6 3000 rfl ?_
  refine mm_xk (S' := (1096, [some (.ref 1000004), some (.ref 0), some (.ref 30), some (.ref 47), some (.int 9), some (.int 1), none], [.int 1], (mm_fw1 (mm_zi 64) (.inr (10, mm_fw1f30 (.int 1))) (mm_zi 12288) [.inr (13, [])]))) 8 3000 rfl ?_
  exact mm_xfn rfl
set_option maxRecDepth 100000 in
set_option maxHeartbeats 4000000 in
theorem mm_lf1_17 (xs : Nat → Int32) (l1 : 0 ≤ (xs 1).toInt) (u1 : (xs 1).toInt ≤ 0) (l2 : 0 ≤ (xs 2).toInt) (u2 : (xs 2).toInt ≤ 7) (l3 : 0 ≤ (xs 3).toInt) (u3 : (xs 3).toInt ≤ 7) (l4 : 1 ≤ (xs 4).toInt) (l5 : 1 ≤ (xs 5).toInt) (hc0 : mm_cmp .gt (xs 4) (8 - xs 2) = true) : mm_Ok xs 192 := by
  refine mm_Ok_of (w' := ((mm_w0.set 30 (.inr (10, (mm_f30.set 0 (.int 1))))) ++ [.inr (13, [])])) (mm_szP 6 (mm_szS 63 mm_sz0 rfl) rfl) rfl rfl ?_
  refine mm_xk (S' := (244, [some (.ref 1000004), some (.ref 0), some (.ref 30), some (.ref 47), some (.int 0), none, none], [.int (xs 8), .int (xs 7), .int (xs 6), .int (xs 5), .int (xs 4), .int (xs 3), .int (xs 2), .int (xs 1), .ref 0], (mm_fw1 (mm_zi 64) (.inr (10, mm_fw1f30 (.int 0))) (mm_zi 12288) []))) 41 3000 rfl ?_
  refine mm_xcl (v := (some (.int 1))) (w1 := (mm_fw1 (mm_zi 64) (.inr (10, mm_fw1f30 (.int 0))) (mm_zi 12288) [.inr (13, [])])) rfl ?_ ?_
  · skip
    refine mm_xk (S' := (14, [some (.ref 0), some (.int (xs 1)), some (.int (xs 2)), some (.int (xs 3)), some (.int (xs 4)), some (.int (xs 5)), some (.int (xs 6)), some (.int (xs 7)), some (.int (xs 8)), none], [.int (xs 8), .int (xs 7), .int (xs 6), .int (xs 5), .int (xs 4), .int (xs 3), .int (xs 2), .int (xs 1), .ref 0], (mm_fw1 (mm_zi 64) (.inr (10, mm_fw1f30 (.int 0))) (mm_zi 12288) []))) 9 3000 rfl ?_
    refine mm_xct (x := 13) (hp := 20) (w1 := (mm_fw1 (mm_zi 64) (.inr (10, mm_fw1f30 (.int 0))) (mm_zi 12288) [.inr (13, [])])) rfl ?_ rfl ?_
    · skip
      refine mm_xk (S' := (7, [some (.ref 0), some (.int (xs 1)), some (.int (xs 2)), some (.int (xs 3)), some (.int (xs 4)), some (.int (xs 5)), some (.int (xs 6)), some (.int (xs 7)), some (.int (xs 8)), none, none, none, none, none, none], [.int (xs 3), .int (xs 2), .int (xs 1), .ref 1], (mm_fw1 (mm_zi 64) (.inr (10, mm_fw1f30 (.int 0))) (mm_zi 12288) []))) 5 3000 rfl ?_
      refine mm_xcl (v := (some (.int 1))) (w1 := (mm_fw1 (mm_zi 64) (.inr (10, mm_fw1f30 (.int 0))) (mm_zi 12288) [])) rfl ?_ ?_
      · skip
        refine mm_xk (S' := (1, [some (.ref 1), some (.int (xs 1)), some (.int (xs 2)), some (.int (xs 3))], [.int (xs 1)], (mm_fw1 (mm_zi 64) (.inr (10, mm_fw1f30 (.int 0))) (mm_zi 12288) []))) 1 3000 rfl ?_
        refine mm_xif1 rfl false (mm_lt0 (a := (xs 1).toInt) (b := 0) rfl rfl (by omega)) rfl ?_
        refine mm_xk (S' := (9, [some (.ref 1), some (.int (xs 1)), some (.int (xs 2)), some (.int (xs 3))], [.int 1, .int (xs 1)], (mm_fw1 (mm_zi 64) (.inr (10, mm_fw1f30 (.int 0))) (mm_zi 12288) []))) 3 3000 rfl ?_
        refine mm_xif2 rfl false (mm_ge0 (a := (xs 1).toInt) (b := 1) rfl rfl (by omega)) rfl ?_
        refine mm_xk (S' := (13, [some (.ref 1), some (.int (xs 1)), some (.int (xs 2)), some (.int (xs 3))], [.int (xs 2)], (mm_fw1 (mm_zi 64) (.inr (10, mm_fw1f30 (.int 0))) (mm_zi 12288) []))) 1 3000 rfl ?_
        refine mm_xif1 rfl false (mm_lt0 (a := (xs 2).toInt) (b := 0) rfl rfl (by omega)) rfl ?_
        refine mm_xk (S' := (21, [some (.ref 1), some (.int (xs 1)), some (.int (xs 2)), some (.int (xs 3))], [.int 8, .int (xs 2)], (mm_fw1 (mm_zi 64) (.inr (10, mm_fw1f30 (.int 0))) (mm_zi 12288) []))) 3 3000 rfl ?_
        refine mm_xif2 rfl false (mm_ge0 (a := (xs 2).toInt) (b := 8) rfl rfl (by omega)) rfl ?_
        refine mm_xk (S' := (25, [some (.ref 1), some (.int (xs 1)), some (.int (xs 2)), some (.int (xs 3))], [.int (xs 3)], (mm_fw1 (mm_zi 64) (.inr (10, mm_fw1f30 (.int 0))) (mm_zi 12288) []))) 1 3000 rfl ?_
        refine mm_xif1 rfl false (mm_lt0 (a := (xs 3).toInt) (b := 0) rfl rfl (by omega)) rfl ?_
        refine mm_xk (S' := (33, [some (.ref 1), some (.int (xs 1)), some (.int (xs 2)), some (.int (xs 3))], [.int 8, .int (xs 3)], (mm_fw1 (mm_zi 64) (.inr (10, mm_fw1f30 (.int 0))) (mm_zi 12288) []))) 3 3000 rfl ?_
        refine mm_xif2 rfl false (mm_ge0 (a := (xs 3).toInt) (b := 8) rfl rfl (by omega)) rfl ?_
        refine mm_xk (S' := (41, [some (.ref 1), some (.int (xs 1)), some (.int (xs 2)), some (.int (xs 3))], [.int 1], (mm_fw1 (mm_zi 64) (.inr (10, mm_fw1f30 (.int 0))) (mm_zi 12288) []))) 2 3000 rfl ?_
        exact mm_xfn rfl
      refine mm_xk (S' := (23, [some (.ref 0), some (.int (xs 1)), some (.int (xs 2)), some (.int (xs 3)), some (.int (xs 4)), some (.int (xs 5)), some (.int (xs 6)), some (.int (xs 7)), some (.int (xs 8)), none, none, none, none, none, none], [.int (xs 5), .int (xs 4), .int (xs 3), .int (xs 2), .ref 1], (mm_fw1 (mm_zi 64) (.inr (10, mm_fw1f30 (.int 0))) (mm_zi 12288) []))) 7 3000 rfl ?_
      refine mm_xcl (v := (some (.int 0))) (w1 := (mm_fw1 (mm_zi 64) (.inr (10, mm_fw1f30 (.int 0))) (mm_zi 12288) [])) rfl ?_ ?_
      · skip
        refine mm_xk (S' := (2, [some (.ref 1), some (.int (xs 2)), some (.int (xs 3)), some (.int (xs 4)), some (.int (xs 5))], [.int 1, .int (xs 4)], (mm_fw1 (mm_zi 64) (.inr (10, mm_fw1f30 (.int 0))) (mm_zi 12288) []))) 2 3000 rfl ?_
        refine mm_xif2 rfl false (mm_lt0 (a := (xs 4).toInt) (b := 1) rfl rfl (by omega)) rfl ?_
        refine mm_xk (S' := (12, [some (.ref 1), some (.int (xs 2)), some (.int (xs 3)), some (.int (xs 4)), some (.int (xs 5))], [.int (8 - xs 2), .int (xs 4)], (mm_fw1 (mm_zi 64) (.inr (10, mm_fw1f30 (.int 0))) (mm_zi 12288) []))) 5 3000 rfl ?_
        refine mm_xif2 rfl true hc0 rfl ?_
        refine mm_xk (S' := (37, [some (.ref 1), some (.int (xs 2)), some (.int (xs 3)), some (.int (xs 4)), some (.int (xs 5))], [.int 0], (mm_fw1 (mm_zi 64) (.inr (10, mm_fw1f30 (.int 0))) (mm_zi 12288) []))) 1 3000 rfl ?_
        exact mm_xfn rfl
      refine mm_xk (S' := (29, [some (.ref 0), some (.int (xs 1)), some (.int (xs 2)), some (.int (xs 3)), some (.int (xs 4)), some (.int (xs 5)), some (.int (xs 6)), some (.int (xs 7)), some (.int (xs 8)), none, none, none, none, none, none], [], (mm_fw1 (mm_zi 64) (.inr (10, mm_fw1f30 (.int 0))) (mm_zi 12288) []))) 1 3000 rfl ?_
      exact mm_xfn rfl
    refine mm_xk (S' := (23, [some (.ref 0), some (.int (xs 1)), some (.int (xs 2)), some (.int (xs 3)), some (.int (xs 4)), some (.int (xs 5)), some (.int (xs 6)), some (.int (xs 7)), some (.int (xs 8)), some (.ref 48)], [.int 1], (mm_fw1 (mm_zi 64) (.inr (10, mm_fw1f30 (.int 0))) (mm_zi 12288) [.inr (13, [])]))) 2 3000 rfl ?_
    exact mm_xfn rfl
  refine mm_xk (S' := (301, [some (.ref 1000004), some (.ref 0), some (.ref 30), some (.ref 47), some (.int 0), some (.int 1), none], [.int (xs 8), .int (xs 7), .int (xs 6), .int (xs 5), .int (xs 4), .int (xs 3), .int (xs 2), .int (xs 1), .ref 30], (mm_fw1 (mm_zi 64) (.inr (10, mm_fw1f30 (.int 0))) (mm_zi 12288) [.inr (13, [])]))) 42 3000 rfl ?_
  refine mm_xcl (v := none) (w1 := (mm_fw1 (mm_zi 64) (.inr (10, mm_fw1f30 (.int 1))) (mm_zi 12288) [.inr (13, [])])) rfl ?_ ?_
  · skip
    refine mm_xk (S' := (1, [some (.ref 30), some (.int (xs 1)), some (.int (xs 2)), some (.int (xs 3)), some (.int (xs 4)), some (.int (xs 5)), some (.int (xs 6)), some (.int (xs 7)), some (.int (xs 8)), none, none, none, none, none], [.int (xs 1)], (mm_fw1 (mm_zi 64) (.inr (10, mm_fw1f30 (.int 0))) (mm_zi 12288) [.inr (13, [])]))) 1 3000 rfl ?_
    refine mm_xif1 rfl false (mm_lt0 (a := (xs 1).toInt) (b := 0) rfl rfl (by omega)) rfl ?_
    refine mm_xk (S' := (9, [some (.ref 30), some (.int (xs 1)), some (.int (xs 2)), some (.int (xs 3)), some (.int (xs 4)), some (.int (xs 5)), some (.int (xs 6)), some (.int (xs 7)), some (.int (xs 8)), none, none, none, none, none], [.int 1, .int (xs 1)], (mm_fw1 (mm_zi 64) (.inr (10, mm_fw1f30 (.int 0))) (mm_zi 12288) [.inr (13, [])]))) 3 3000 rfl ?_
    refine mm_xif2 rfl false (mm_ge0 (a := (xs 1).toInt) (b := 1) rfl rfl (by omega)) rfl ?_
    refine mm_xk (S' := (14, [some (.ref 30), some (.int (xs 1)), some (.int (xs 2)), some (.int (xs 3)), some (.int (xs 4)), some (.int (xs 5)), some (.int (xs 6)), some (.int (xs 7)), some (.int (xs 8)), none, none, none, none, none], [.int (xs 4)], (mm_fw1 (mm_zi 64) (.inr (10, mm_fw1f30 (.int 0))) (mm_zi 12288) [.inr (13, [])]))) 1 3000 rfl ?_
    refine mm_xif1 rfl false (mm_le0 (a := (xs 4).toInt) (b := 0) rfl rfl (by omega)) rfl ?_
    refine mm_xk (S' := (19, [some (.ref 30), some (.int (xs 1)), some (.int (xs 2)), some (.int (xs 3)), some (.int (xs 4)), some (.int (xs 5)), some (.int (xs 6)), some (.int (xs 7)), some (.int (xs 8)), none, none, none, none, none], [.int (xs 5)], (mm_fw1 (mm_zi 64) (.inr (10, mm_fw1f30 (.int 0))) (mm_zi 12288) [.inr (13, [])]))) 1 3000 rfl ?_
    refine mm_xif1 rfl false (mm_le0 (a := (xs 5).toInt) (b := 0) rfl rfl (by omega)) rfl ?_
    refine mm_xk (S' := (23, [some (.ref 30), some (.int (xs 1)), some (.int (xs 2)), some (.int (xs 3)), some (.int (xs 4)), some (.int (xs 5)), some (.int (xs 6)), some (.int (xs 7)), some (.int (xs 8)), none, none, none, none, none], [.int (xs 2)], (mm_fw1 (mm_zi 64) (.inr (10, mm_fw1f30 (.int 0))) (mm_zi 12288) [.inr (13, [])]))) 1 3000 rfl ?_
    refine mm_xif1 rfl false (mm_lt0 (a := (xs 2).toInt) (b := 0) rfl rfl (by omega)) rfl ?_
    refine mm_xk (S' := (27, [some (.ref 30), some (.int (xs 1)), some (.int (xs 2)), some (.int (xs 3)), some (.int (xs 4)), some (.int (xs 5)), some (.int (xs 6)), some (.int (xs 7)), some (.int (xs 8)), none, none, none, none, none], [.int (xs 3)], (mm_fw1 (mm_zi 64) (.inr (10, mm_fw1f30 (.int 0))) (mm_zi 12288) [.inr (13, [])]))) 1 3000 rfl ?_
    refine mm_xif1 rfl false (mm_lt0 (a := (xs 3).toInt) (b := 0) rfl rfl (by omega)) rfl ?_
    refine mm_xk (S' := (35, [some (.ref 30), some (.int (xs 1)), some (.int (xs 2)), some (.int (xs 3)), some (.int (xs 4)), some (.int (xs 5)), some (.int (xs 6)), some (.int (xs 7)), some (.int (xs 8)), none, none, none, none, none], [.int 8, .int (xs 2)], (mm_fw1 (mm_zi 64) (.inr (10, mm_fw1f30 (.int 0))) (mm_zi 12288) [.inr (13, [])]))) 3 3000 rfl ?_
    refine mm_xif2 rfl false (mm_ge0 (a := (xs 2).toInt) (b := 8) rfl rfl (by omega)) rfl ?_
    refine mm_xk (S' := (43, [some (.ref 30), some (.int (xs 1)), some (.int (xs 2)), some (.int (xs 3)), some (.int (xs 4)), some (.int (xs 5)), some (.int (xs 6)), some (.int (xs 7)), some (.int (xs 8)), none, none, none, none, none], [.int 8, .int (xs 3)], (mm_fw1 (mm_zi 64) (.inr (10, mm_fw1f30 (.int 0))) (mm_zi 12288) [.inr (13, [])]))) 3 3000 rfl ?_
    refine mm_xif2 rfl false (mm_ge0 (a := (xs 3).toInt) (b := 8) rfl rfl (by omega)) rfl ?_
    refine mm_xk (S' := (54, [some (.ref 30), some (.int (xs 1)), some (.int (xs 2)), some (.int (xs 3)), some (.int (xs 4)), some (.int (xs 5)), some (.int (xs 6)), some (.int (xs 7)), some (.int (xs 8)), none, none, none, none, none], [.int (8 - xs 2), .int (xs 4)], (mm_fw1 (mm_zi 64) (.inr (10, mm_fw1f30 (.int 0))) (mm_zi 12288) [.inr (13, [])]))) 5 3000 rfl ?_
    refine mm_xif2 rfl true hc0 rfl ?_
    refine mm_xk (S' := (130, [some (.ref 30), some (.int (xs 1)), some (.int (xs 2)), some (.int (xs 3)), some (.int (xs 4)), some (.int (xs 5)), some (.int (xs 6)), some (.int (xs 7)), some (.int (xs 8)), some (.int 0), none, none, none, none], [], (mm_fw1 (mm_zi 64) (.inr (10, mm_fw1f30 (.int 1))) (mm_zi 12288) [.inr (13, [])]))) 8 3000 rfl ?_
    refine mm_xk (S' := (137, [some (.ref 30), some (.int (xs 1)), some (.int (xs 2)), some (.int (xs 3)), some (.int (xs 4)), some (.int (xs 5)), some (.int (xs 6)), some (.int (xs 7)), some (.int (xs 8)), some (.int 0), none, none, none, none], [], (mm_fw1 (mm_zi 64) (.inr (10, mm_fw1f30 (.int 1))) (mm_zi 12288) [.inr (13, [])]))) 3 3000 rfl ?_
    exact mm_xfn rfl
  refine mm_xk (S' := (1092, [some (.ref 1000004), some (.ref 0), some (.ref 30), some (.ref 47), some (.int 9), some (.int 1), none], [], (mm_fw1 (mm_zi 64) (.inr (10, mm_fw1f30 (.int 1))) (mm_zi 12288) [.inr (13, [])]))) 6 3000 rfl ?_
  refine mm_xk (S' := (1096, [some (.ref 1000004), some (.ref 0), some (.ref 30), some (.ref 47), some (.int 9), some (.int 1), none], [.int 1], (mm_fw1 (mm_zi 64) (.inr (10, mm_fw1f30 (.int 1))) (mm_zi 12288) [.inr (13, [])]))) 8 3000 rfl ?_
  exact mm_xfn rfl
