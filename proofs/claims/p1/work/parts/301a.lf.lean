def mm_fw1f30 (x0 : Value) : List Value := [x0, .int 8, .int 8, .int 1, .int 8, .ref 31, .ref 32, .int 0, .int 0, .int 0, .int 0, .int 0, .ref 33, .ref 34, .int 0, .ref 35, .int 0, .int 0, .int 0, .int 0, .int 0, .int 0, .int 0, .int 0, .int 0, .int 0, .int 0, .ref 36, .ref 37, .ref 38, .ref 39, .ref 40, .ref 41, .ref 42, .ref 43, .int 0, .int 0, .int 0, .int 0, .int 0, .ref 44, .int 0, .int 0, .int 0, .int 0, .int 0, .int 0, .int 0, .int 0, .int 0, .int 0, .int (-1), .int 0, .int 0, .int 0, .ref 45, .ref 46, .int 0, .int 0, .int 0, .int 0, .int 0, .int 0]
def mm_fw1 (x29 x30 x31 : mm_E) (t : mm_W) : mm_W := .inr (0, mm_f0) :: .inr (2, mm_f1) :: mm_zi 0 :: mm_zi 5 :: .inr (1, mm_f4) :: mm_zb 64 :: .inr (1, mm_f6) :: mm_zb 64 :: .inr (3, mm_f8) :: .inr (4, mm_f9) :: mm_zi 1468 :: mm_zi 1468 :: .inr (5, mm_f12) :: mm_zi 66 :: mm_zi 66 :: mm_zi 0 :: .inr (7, mm_f16) :: .inr (9, mm_f17) :: mm_zi 5 :: mm_zi 3 :: .inr (8, mm_f20) :: .inr (6, mm_f21) :: mm_zi 66 :: mm_zi 66 :: mm_zi 0 :: .inr (2, mm_f25) :: mm_zi 0 :: .inr (2, mm_f27) :: mm_zi 0 :: x29 :: x30 :: x31 :: mm_zi 5 :: mm_zi 12288 :: mm_zb 32768 :: mm_zb 65536 :: mm_zi 367 :: mm_zi 367 :: mm_zi 367 :: mm_zi 367 :: mm_zi 367 :: mm_zi 367 :: mm_zi 367 :: mm_zi 367 :: mm_zi 12288 :: mm_zi 3 :: mm_zi 5 :: .inl (.long, 1, .inr (.inl (fun _ => 0))) :: t

set_option maxRecDepth 100000 in
set_option maxHeartbeats 4000000 in
theorem mm_lf1_0 (xs : Nat → Int32) (l1 : 1 ≤ (xs 1).toInt) : mm_Ok xs 192 := by
  refine mm_Ok_of (w' := ((mm_w0.set 30 (.inr (10, (mm_f30.set 0 (.int 1))))) ++ [.inr (13, [])])) (mm_szP 6 (mm_szS 63 mm_sz0 rfl) rfl) rfl rfl ?_
  refine mm_xk (S' := (244, [some (.ref 1000004), some (.ref 0), some (.ref 30), some (.ref 47), some (.int 0), none, none], [.int (xs 8), .int (xs 7), .int (xs 6), .int (xs 5), .int (xs 4), .int (xs 3), .int (xs 2), .int (xs 1), .ref 0], (mm_fw1 (mm_zi 64) (.inr (10, mm_fw1f30 (.int 0))) (mm_zi 12288) []))) 41 3000 rfl ?_
  refine mm_xcl (v := (some (.int 1))) (w1 := (mm_fw1 (mm_zi 64) (.inr (10, mm_fw1f30 (.int 0))) (mm_zi 12288) [.inr (13, [])])) rfl ?_ ?_
  · skip
    refine mm_xk (S' := (14, [some (.ref 0), some (.int (xs 1)), some (.int (xs 2)), some (.int (xs 3)), some (.int (xs 4)), some (.int (xs 5)), some (.int (xs 6)), some (.int (xs 7)), some (.int (xs 8)), none], [.int (xs 8), .int (xs 7), .int (xs 6), .int (xs 5), .int (xs 4), .int (xs 3), .int (xs 2), .int (xs 1), .ref 0], (mm_fw1 (mm_zi 64) (.inr (10, mm_fw1f30 (.int 0))) (mm_zi 12288) []))) 9 3000 rfl ?_
    refine mm_xct (x := 13) (hp := 20) (w1 := (mm_fw1 (mm_zi 64) (.inr (10, mm_fw1f30 (.int 0))) (mm_zi 12288) [.inr (13, [])])) rfl ?_ rfl ?_
    · skip
      refine mm_xk (S' := (7, [some (.ref 0), some (.int (xs 1)), some (.int (xs 2)), some (.int (xs 3)), some (.int (xs 4)), some (.int (xs 5)), some (.int (xs 6)), some (.int (xs 7)), some (.int (xs 8)), none, none, none, none, none, none], [.int (xs 3), .int (xs 2), .int (xs 1), .ref 1], (mm_fw1 (mm_zi 64) (.inr (10, mm_fw1f30 (.int 0))) (mm_zi 12288) []))) 5 3000 rfl ?_
      refine mm_xcl (v := (some (.int 0))) (w1 := (mm_fw1 (mm_zi 64) (.inr (10, mm_fw1f30 (.int 0))) (mm_zi 12288) [])) rfl ?_ ?_
      · skip
        refine mm_xk (S' := (1, [some (.ref 1), some (.int (xs 1)), some (.int (xs 2)), some (.int (xs 3))], [.int (xs 1)], (mm_fw1 (mm_zi 64) (.inr (10, mm_fw1f30 (.int 0))) (mm_zi 12288) []))) 1 3000 rfl ?_
        refine mm_xif1 rfl false (mm_lt0 (a := (xs 1).toInt) (b := 0) rfl rfl (by omega)) rfl ?_
        refine mm_xk (S' := (9, [some (.ref 1), some (.int (xs 1)), some (.int (xs 2)), some (.int (xs 3))], [.int 1, .int (xs 1)], (mm_fw1 (mm_zi 64) (.inr (10, mm_fw1f30 (.int 0))) (mm_zi 12288) []))) 3 3000 rfl ?_
        refine mm_xif2 rfl true (mm_ge1 (a := (xs 1).toInt) (b := 1) rfl rfl (by omega)) rfl ?_
        refine mm_xk (S' := (41, [some (.ref 1), some (.int (xs 1)), some (.int (xs 2)), some (.int (xs 3))], [.int 0], (mm_fw1 (mm_zi 64) (.inr (10, mm_fw1f30 (.int 0))) (mm_zi 12288) []))) 1 3000 rfl ?_
        exact mm_xfn rfl
      refine mm_xk (S' := (29, [some (.ref 0), some (.int (xs 1)), some (.int (xs 2)), some (.int (xs 3)), some (.int (xs 4)), some (.int (xs 5)), some (.int (xs 6)), some (.int (xs 7)), some (.int (xs 8)), none, none, none, none, none, none], [], (mm_fw1 (mm_zi 64) (.inr (10, mm_fw1f30 (.int 0))) (mm_zi 12288) []))) 1 3000 rfl ?_
      exact mm_xfn rfl
    refine mm_xk (S' := (23, [some (.ref 0), some (.int (xs 1)), some (.int (xs 2)), some (.int (xs 3)), some (.int (xs 4)), some (.int (xs 5)), some (.int (xs 6)), some (.int (xs 7)), some (.int (xs 8)), some (.ref 48)], [.int 1], (mm_fw1 (mm_zi 64) (.inr (10, mm_fw1f30 (.int 0))) (mm_zi 12288) [.inr (13, [])]))) 2 3000 rfl ?_
    exact mm_xfn rfl
  refine mm_xk (S' := (301, [some (.ref 1000004), some (.ref 0), some (.ref 30), some (.ref 47), some (.int 0), some (.int 1), none], [.int (xs 8), .int (xs 7), .int (xs 6), .int (xs 5), .int (xs 4), .int (xs 3), .int (xs 2), .int (xs 1), .ref 30], (mm_fw1 (mm_zi 64) (.inr (10, mm_fw1f30 (.int 0))) (mm_zi 12288) [.inr (13, [])]))) 42 3000 rfl ?_
  refine mm_xcl (v := none) (w1 := (mm_fw1 (mm_zi 64) (.inr (10, mm_fw1f30 (.int 1))) (mm_zi 12288) [.inr (13, [])])) rfl ?_ ?_
  · skip
    refine mm_xk (S' := (1, [some (.ref 30), some (.int (xs 1)), some (.int (xs 2)), some (.int (xs 3)), some (.int (xs 4)), some (.int (xs 5)), some (.int (xs 6)), some (.int (xs 7)), some (.int (xs 8)), none, none, none, none, none], [.int (xs 1)], (mm_fw1 (mm_zi 64) (.inr (10, mm_fw1f30 (.int 0))) (mm_zi 12288) [.inr (13, [])]))) 1 3000 rfl ?_
    refine mm_xif1 rfl false (mm_lt0 (a := (xs 1).toInt) (b := 0) rfl rfl (by omega)) rfl ?_
    refine mm_xk (S' := (9, [some (.ref 30), some (.int (xs 1)), some (.int (xs 2)), some (.int (xs 3)), some (.int (xs 4)), some (.int (xs 5)), some (.int (xs 6)), some (.int (xs 7)), some (.int (xs 8)), none, none, none, none, none], [.int 1, .int (xs 1)], (mm_fw1 (mm_zi 64) (.inr (10, mm_fw1f30 (.int 0))) (mm_zi 12288) [.inr (13, [])]))) 3 3000 rfl ?_
    refine mm_xif2 rfl true (mm_ge1 (a := (xs 1).toInt) (b := 1) rfl rfl (by omega)) rfl ?_
    refine mm_xk (S' := (130, [some (.ref 30), some (.int (xs 1)), some (.int (xs 2)), some (.int (xs 3)), some (.int (xs 4)), some (.int (xs 5)), some (.int (xs 6)), some (.int (xs 7)), some (.int (xs 8)), some (.int 0), none, none, none, none], [], (mm_fw1 (mm_zi 64) (.inr (10, mm_fw1f30 (.int 1))) (mm_zi 12288) [.inr (13, [])]))) 8 3000 rfl ?_
    refine mm_xk (S' := (137, [some (.ref 30), some (.int (xs 1)), some (.int (xs 2)), some (.int (xs 3)), some (.int (xs 4)), some (.int (xs 5)), some (.int (xs 6)), some (.int (xs 7)), some (.int (xs 8)), some (.int 0), none, none, none, none], [], (mm_fw1 (mm_zi 64) (.inr (10, mm_fw1f30 (.int 1))) (mm_zi 12288) [.inr (13, [])]))) 3 3000 rfl ?_
    exact mm_xfn rfl
  refine mm_xk (S' := (1092, [some (.ref 1000004), some (.ref 0), some (.ref 30), some (.ref 47), some (.int 9), some (.int 1), none], [], (mm_fw1 (mm_zi 64) (.inr (10, mm_fw1f30 (.int 1))) (mm_zi 12288) [.inr (13, [])]))) 6 3000 rfl ?_
  refine mm_xk (S' := (1096, [some (.ref 1000004), some (.ref 0), some (.ref 30), some (.ref 47), some (.int 9), some (.int 1), none], [.int 1], (mm_fw1 (mm_zi 64) (.inr (10, mm_fw1f30 (.int 1))) (mm_zi 12288) [.inr (13, [])]))) 8 3000 rfl ?_
  exact mm_xfn rfl
set_option maxRecDepth 100000 in
set_option maxHeartbeats 4000000 in
theorem mm_lf1_1 (xs : Nat → Int32) (l1 : 0 ≤ (xs 1).toInt) (u1 : (xs 1).toInt ≤ 0) (l2 : 8 ≤ (xs 2).toInt) (l3 : 0 ≤ (xs 3).toInt) (l4 : 1 ≤ (xs 4).toInt) (l5 : 1 ≤ (xs 5).toInt) : mm_Ok xs 192 := by
  refine mm_Ok_of (w' := ((mm_w0.set 30 (.inr (10, (mm_f30.set 0 (.int 1))))) ++ [.inr (13, [])])) (mm_szP 6 (mm_szS 63 mm_sz0 rfl) rfl) rfl rfl ?_
  refine mm_xk (S' := (244, [some (.ref 1000004), some (.ref 0), some (.ref 30), some (.ref 47), some (.int 0), none, none], [.int (xs 8), .int (xs 7), .int (xs 6), .int (xs 5), .int (xs 4), .int (xs 3), .int (xs 2), .int (xs 1), .ref 0], (mm_fw1 (mm_zi 64) (.inr (10, mm_fw1f30 (.int 0))) (mm_zi 12288) []))) 41 3000 rfl ?_
  refine mm_xcl (v := (some (.int 1))) (w1 := (mm_fw1 (mm_zi 64) (.inr (10, mm_fw1f30 (.int 0))) (mm_zi 12288) [.inr (13, [])])) rfl ?_ ?_
  · skip
    refine mm_xk (S' := (14, [some (.ref 0), some (.int (xs 1)), some (.int (xs 2)), some (.int (xs 3)), some (.int (xs 4)), some (.int (xs 5)), some (.int (xs 6)), some (.int (xs 7)), some (.int (xs 8)), none], [.int (xs 8), .int (xs 7), .int (xs 6), .int (xs 5), .int (xs 4), .int (xs 3), .int (xs 2), .int (xs 1), .ref 0], (mm_fw1 (mm_zi 64) (.inr (10, mm_fw1f30 (.int 0))) (mm_zi 12288) []))) 9 3000 rfl ?_
    refine mm_xct (x := 13) (hp := 20) (w1 := (mm_fw1 (mm_zi 64) (.inr (10, mm_fw1f30 (.int 0))) (mm_zi 12288) [.inr (13, [])])) rfl ?_ rfl ?_
    · skip
      refine mm_xk (S' := (7, [some (.ref 0), some (.int (xs 1)), some (.int (xs 2)), some (.int (xs 3)), some (.int (xs 4)), some (.int (xs 5)), some (.int (xs 6)), some (.int (xs 7)), some (.int (xs 8)), none, none, none, none, none, none], [.int (xs 3), .int (xs 2), .int (xs 1), .ref 1], (mm_fw1 (mm_zi 64) (.inr (10, mm_fw1f30 (.int 0))) (mm_zi 12288) []))) 5 3000 rfl ?_
      refine mm_xcl (v := (some (.int 0))) (w1 := (mm_fw1 (mm_zi 64) (.inr (10, mm_fw1f30 (.int 0))) (mm_zi 12288) [])) rfl ?_ ?_
      · skip
        refine mm_xk (S' := (1, [some (.ref 1), some (.int (xs 1)), some (.int (xs 2)), some (.int (xs 3))], [.int (xs 1)], (mm_fw1 (mm_zi 64) (.inr (10, mm_fw1f30 (.int 0))) (mm_zi 12288) []))) 1 3000 rfl ?_
        refine mm_xif1 rfl false (mm_lt0 (a := (xs 1).toInt) (b := 0) rfl rfl (by omega)) rfl ?_
        refine mm_xk (S' := (9, [some (.ref 1), some (.int (xs 1)), some (.int (xs 2)), some (.int (xs 3))], [.int 1, .int (xs 1)], (mm_fw1 (mm_zi 64) (.inr (10, mm_fw1f30 (.int 0))) (mm_zi 12288) []))) 3 3000 rfl ?_
        refine mm_xif2 rfl false (mm_ge0 (a := (xs 1).toInt) (b := 1) rfl rfl (by omega)) rfl ?_
        refine mm_xk (S' := (13, [some (.ref 1), some (.int (xs 1)), some (.int (xs 2)), some (.int (xs 3))], [.int (xs 2)], (mm_fw1 (mm_zi 64) (.inr (10, mm_fw1f30 (.int 0))) (mm_zi 12288) []))) 1 3000 rfl ?_
        refine mm_xif1 rfl false (mm_lt0 (a := (xs 2).toInt) (b := 0) rfl rfl (by omega)) rfl ?_
        refine mm_xk (S' := (21, [some (.ref 1), some (.int (xs 1)), some (.int (xs 2)), some (.int (xs 3))], [.int 8, .int (xs 2)], (mm_fw1 (mm_zi 64) (.inr (10, mm_fw1f30 (.int 0))) (mm_zi 12288) []))) 3 3000 rfl ?_
        refine mm_xif2 rfl true (mm_ge1 (a := (xs 2).toInt) (b := 8) rfl rfl (by omega)) rfl ?_
        refine mm_xk (S' := (41, [some (.ref 1), some (.int (xs 1)), some (.int (xs 2)), some (.int (xs 3))], [.int 0], (mm_fw1 (mm_zi 64) (.inr (10, mm_fw1f30 (.int 0))) (mm_zi 12288) []))) 1 3000 rfl ?_
        exact mm_xfn rfl
      refine mm_xk (S' := (29, [some (.ref 0), some (.int (xs 1)), some (.int (xs 2)), some (.int (xs 3)), some (.int (xs 4)), some (.int (xs 5)), some (.int (xs 6)), some (.int (xs 7)), some (.int (xs 8)), none, none, none, none, none, none], [], (mm_fw1 (mm_zi 64) (.inr (10, mm_fw1f30 (.int 0))) (mm_zi 12288) []))) 1 3000 rfl ?_
      exact mm_xfn rfl
    refine mm_xk (S' := (23, [some (.ref 0), some (.int (xs 1)), some (.int (xs 2)), some (.int (xs 3)), some (.int (xs 4)), some (.int (xs 5)), some (.int (xs 6)), some (.int (xs 7)), some (.int (xs 8)), some (.ref 48)], [.int 1], (mm_fw1 (mm_zi 64) (.inr (10, mm_fw1f30 (.int 0))) (mm_zi 12288) [.inr (13, [])]))) 2 3000 rfl ?_
    exact mm_xfn rfl
  refine mm_xk (S' := (301, [some (.ref 1000004), some (.ref 0), some (.ref 30), some (.ref 47), some (.int 0), some (.int 1), none], [.int (xs 8), .int (xs 7), .int (xs 6), .int (xs 5), .int (xs 4), .int (xs 3), .int (xs 2), .int (xs 1), .ref 30], (mm_fw1 (mm_zi 64) (.inr (10, mm_fw1f30 (.int 0))) (mm_zi 12288) [.inr (13, [])]))) 42 3000 rfl ?_
  refine mm_xcl (v := none) (w1 := (mm_fw1 (mm_zi 64) (.inr (10, mm_fw1f30 (.int 1))) (mm_zi 12288) [.inr (13, [])])) rfl ?_ ?_
  · skip
    refine mm_xk (S' := (1, [some (.ref 30), some (.int (xs 1)), some (.int (xs 2)), some (.int (xs 3)), some (.int (xs 4)), some (.int (xs 5)), some (.int (xs 6)), some (.int (xs 7)), some (.int (xs 8)), none, none, none, none, none], [.int (xs 1)], (mm_fw1 (mm_zi 64) (.inr (10, mm_fw1f30 (.int 0))) (mm_zi 12288) [.inr (13, [])]))) 1 3000 rfl ?_
    refine mm_xif1 rfl false (mm_lt0 (a := (xs 1).toInt) (b := 0) rfl rfl (by omega)) rfl ?_
    refine mm_xk (S' := (9, [some (.ref 30), some (.int (xs 1)), some (.int (xs 2)), some (.int (xs 3)), some (.int (xs 4)), some (.int (xs 5)), some (.int (xs 6)), some (.int (xs 7)), some (.int (xs 8)), none, none, none, none, none], [.int 1, .int (xs 1)], (mm_fw1 (mm_zi 64) (.inr (10, mm_fw1f30 (.int 0))) (mm_zi 12288) [.inr (13, [])]))) 3 3000 rfl ?_
    refine mm_xif2 rfl false (mm_ge0 (a := (xs 1).toInt) (b := 1) rfl rfl (by omega)) rfl ?_
    refine mm_xk (S' := (14, [some (.ref 30), some (.int (xs 1)), some (.int (xs 2)), some (.int (xs 3)), some (.int (xs 4)), some (.int (xs 5)), some (.int (xs 6)), some (.int (xs 7)), some (.int (xs 8)), none, none, none, none, none], [.int (xs 4)], (mm_fw1 (mm_zi 64) (.inr (10, mm_fw1f30 (.int 0))) (mm_zi 12288) [.inr (13, [])]))) 1 3000 rfl ?_
    refine mm_xif1 rfl false (mm_le0 (a := (xs 4).toInt) (b := 0) rfl rfl (by omega)) rfl ?_
    refine mm_xk (S' := (19, [some (.ref 30), some (.int (xs 1)), some (.int (xs 2)), some (.int (xs 3)), some (.int (xs 4)), some (.int (xs 5)), some (.int (xs 6)), some (.int (xs 7)), some (.int (xs 8)), none, none, none, none, none], [.int (xs 5)], (mm_fw1 (mm_zi 64) (.inr (10, mm_fw1f30 (.int 0))) (mm_zi 12288) [.inr (13, [])]))) 1 3000 rfl ?_
    refine mm_xif1 rfl false (mm_le0 (a := (xs 5).toInt) (b := 0) rfl rfl (by omega)) rfl ?_
    refine mm_xk (S' := (23, [some (.ref 30), some (.int (xs 1)), some (.int (xs 2)), some (.int (xs 3)), some (.int (xs 4)), some (.int (xs 5)), some (.int (xs 6)), some (.int (xs 7)), some (.int (xs 8)), none, none, none, none, none], [.int (xs 2)], (mm_fw1 (mm_zi 64) (.inr (10, mm_fw1f30 (.int 0))) (mm_zi 12288) [.inr (13, [])]))) 1 3000 rfl ?_
    refine mm_xif1 rfl false (mm_lt0 (a := (xs 2).toInt) (b := 0) rfl rfl (by omega)) rfl ?_
    refine mm_xk (S' := (27, [some (.ref 30), some (.int (xs 1)), some (.int (xs 2)), some (.int (xs 3)), some (.int (xs 4)), some (.int (xs 5)), some (.int (xs 6)), some (.int (xs 7)), some (.int (xs 8)), none, none, none, none, none], [.int (xs 3)], (mm_fw1 (mm_zi 64) (.inr (10, mm_fw1f30 (.int 0))) (mm_zi 12288) [.inr (13, [])]))) 1 3000 rfl ?_
    refine mm_xif1 rfl false (mm_lt0 (a := (xs 3).toInt) (b := 0) rfl rfl (by omega)) rfl ?_
    refine mm_xk (S' := (35, [some (.ref 30), some (.int (xs 1)), some (.int (xs 2)), some (.int (xs 3)), some (.int (xs 4)), some (.int (xs 5)), some (.int (xs 6)), some (.int (xs 7)), some (.int (xs 8)), none, none, none, none, none], [.int 8, .int (xs 2)], (mm_fw1 (mm_zi 64) (.inr (10, mm_fw1f30 (.int 0))) (mm_zi 12288) [.inr (13, [])]))) 3 3000 rfl ?_
    refine mm_xif2 rfl true (mm_ge1 (a := (xs 2).toInt) (b := 8) rfl rfl (by omega)) rfl ?_
    refine mm_xk (S' := (130, [some (.ref 30), some (.int (xs 1)), some (.int (xs 2)), some (.int (xs 3)), some (.int (xs 4)), some (.int (xs 5)), some (.int (xs 6)), some (.int (xs 7)), some (.int (xs 8)), some (.int 0), none, none, none, none], [], (mm_fw1 (mm_zi 64) (.inr (10, mm_fw1f30 (.int 1))) (mm_zi 12288) [.inr (13, [])]))) 8 3000 rfl ?_
    refine mm_xk (S' := (137, [some (.ref 30), some (.int (xs 1)), some (.int (xs 2)), some (.int (xs 3)), some (.int (xs 4)), some (.int (xs 5)), some (.int (xs 6)), some (.int (xs 7)), some (.int (xs 8)), some (.int 0), none, none, none, none], [], (mm_fw1 (mm_zi 64) (.inr (10, mm_fw1f30 (.int 1))) (mm_zi 12288) [.inr (13, [])]))) 3 3000 rfl ?_
    exact mm_xfn rfl
  refine mm_xk (S' := (1092, [some (.ref 1000004), some (.ref 0), some (.ref 30), some (.ref 47), some (.int 9), some (.int 1), none], [], (mm_fw1 (mm_zi 64) (.inr (10, mm_fw1f30 (.int 1))) (mm_zi 12288) [.inr (13, [])]))) 6 3000 rfl ?_
  refine mm_xk (S' := (1096, [some (.ref 1000004), some (.ref 0), some (.ref 30), some (.ref 47), some (.int 9), some (.int 1), none], [.int 1], (mm_fw1 (mm_zi 64) (.inr (10, mm_fw1f30 (.int 1))) (mm_zi 12288) [.inr (13, [])]))) 8 3000 rfl ?_
  exact mm_xfn rfl
set_option maxRecDepth 100000 in
set_option maxHeartbeats 4000000 in
theorem mm_lf1_2 (xs : Nat → Int32) (l1 : 0 ≤ (xs 1).toInt) (u1 : (xs 1).toInt ≤ 0) (l2 : 8 ≤ (xs 2).toInt) (u3 : (xs 3).toInt ≤ -1) (l4 : 1 ≤ (xs 4).toInt) (l5 : 1 ≤ (xs 5).toInt) : mm_Ok xs 192 := by
  refine mm_Ok_of (w' := ((mm_w0.set 30 (.inr (10, (mm_f30.set 0 (.int 1))))) ++ [.inr (13, [])])) (mm_szP 6 (mm_szS 63 mm_sz0 rfl) rfl) rfl rfl ?_
  refine mm_xk (S' := (244, [some (.ref 1000004), some (.ref 0), some (.ref 30), some (.ref 47), some (.int 0), none, none], [.int (xs 8), .int (xs 7), .int (xs 6), .int (xs 5), .int (xs 4), .int (xs 3), .int (xs 2), .int (xs 1), .ref 0], (mm_fw1 (mm_zi 64) (.inr (10, mm_fw1f30 (.int 0))) (mm_zi 12288) []))) 41 3000 rfl ?_
  refine mm_xcl (v := (some (.int 1))) (w1 := (mm_fw1 (mm_zi 64) (.inr (10, mm_fw1f30 (.int 0))) (mm_zi 12288) [.inr (13, [])])) rfl ?_ ?_
  · skip
    refine mm_xk (S' := (14, [some (.ref 0), some (.int (xs 1)), some (.int (xs 2)), some (.int (xs 3)), some (.int (xs 4)), some (.int (xs 5)), some (.int (xs 6)), some (.int (xs 7)), some (.int (xs 8)), none], [.int (xs 8), .int (xs 7), .int (xs 6), .int (xs 5), .int (xs 4), .int (xs 3), .int (xs 2), .int (xs 1), .ref 0], (mm_fw1 (mm_zi 64) (.inr (10, mm_fw1f30 (.int 0))) (mm_zi 12288) []))) 9 3000 rfl ?_
    refine mm_xct (x := 13) (hp := 20) (w1 := (mm_fw1 (mm_zi 64) (.inr (10, mm_fw1f30 (.int 0))) (mm_zi 12288) [.inr (13, [])])) rfl ?_ rfl ?_
    · skip
      refine mm_xk (S' := (7, [some (.ref 0), some (.int (xs 1)), some (.int (xs 2)), some (.int (xs 3)), some (.int (xs 4)), some (.int (xs 5)), some (.int (xs 6)), some (.int (xs 7)), some (.int (xs 8)), none, none, none, none, none, none], [.int (xs 3), .int (xs 2), .int (xs 1), .ref 1], (mm_fw1 (mm_zi 64) (.inr (10, mm_fw1f30 (.int 0))) (mm_zi 12288) []))) 5 3000 rfl ?_
      refine mm_xcl (v := (some (.int 0))) (w1 := (mm_fw1 (mm_zi 64) (.inr (10, mm_fw1f30 (.int 0))) (mm_zi 12288) [])) rfl ?_ ?_
      · skip
        refine mm_xk (S' := (1, [some (.ref 1), some (.int (xs 1)), some (.int (xs 2)), some (.int (xs 3))], [.int (xs 1)], (mm_fw1 (mm_zi 64) (.inr (10, mm_fw1f30 (.int 0))) (mm_zi 12288) []))) 1 3000 rfl ?_
        refine mm_xif1 rfl false (mm_lt0 (a := (xs 1).toInt) (b := 0) rfl rfl (by omega)) rfl ?_
        refine mm_xk (S' := (9, [some (.ref 1), some (.int (xs 1)), some (.int (xs 2)), some (.int (xs 3))], [.int 1, .int (xs 1)], (mm_fw1 (mm_zi 64) (.inr (10, mm_fw1f30 (.int 0))) (mm_zi 12288) []))) 3 3000 rfl ?_
        refine mm_xif2 rfl false (mm_ge0 (a := (xs 1).toInt) (b := 1) rfl rfl (by omega)) rfl ?_
        refine mm_xk (S' := (13, [some (.ref 1), some (.int (xs 1)), some (.int (xs 2)), some (.int (xs 3))], [.int (xs 2)], (mm_fw1 (mm_zi 64) (.inr (10, mm_fw1f30 (.int 0))) (mm_zi 12288) []))) 1 3000 rfl ?_
        refine mm_xif1 rfl false (mm_lt0 (a := (xs 2).toInt) (b := 0) rfl rfl (by omega)) rfl ?_
        refine mm_xk (S' := (21, [some (.ref 1), some (.int (xs 1)), some (.int (xs 2)), some (.int (xs 3))], [.int 8, .int (xs 2)], (mm_fw1 (mm_zi 64) (.inr (10, mm_fw1f30 (.int 0))) (mm_zi 12288) []))) 3 3000 rfl ?_
        refine mm_xif2 rfl true (mm_ge1 (a := (xs 2).toInt) (b := 8) rfl rfl (by omega)) rfl ?_
        refine mm_xk (S' := (41, [some (.ref 1), some (.int (xs 1)), some (.int (xs 2)), some (.int (xs 3))], [.int 0], (mm_fw1 (mm_zi 64) (.inr (10, mm_fw1f30 (.int 0))) (mm_zi 12288) []))) 1 3000 rfl ?_
        exact mm_xfn rfl
      refine mm_xk (S' := (29, [some (.ref 0), some (.int (xs 1)), some (.int (xs 2)), some (.int (xs 3)), some (.int (xs 4)), some (.int (xs 5)), some (.int (xs 6)), some (.int (xs 7)), some (.int (xs 8)), none, none, none, none, none, none], [], (mm_fw1 (mm_zi 64) (.inr (10, mm_fw1f30 (.int 0))) (mm_zi 12288) []))) 1 3000 rfl ?_
      exact mm_xfn rfl
    refine mm_xk (S' := (23, [some (.ref 0), some (.int (xs 1)), some (.int (xs 2)), some (.int (xs 3)), some (.int (xs 4)), some (.int (xs 5)), some (.int (xs 6)), some (.int (xs 7)), some (.int (xs 8)), some (.ref 48)], [.int 1], (mm_fw1 (mm_zi 64) (.inr (10, mm_fw1f30 (.int 0))) (mm_zi 12288) [.inr (13, [])]))) 2 3000 rfl ?_
    exact mm_xfn rfl
  refine mm_xk (S' := (301, [some (.ref 1000004), some (.ref 0), some (.ref 30), some (.ref 47), some (.int 0), some (.int 1), none], [.int (xs 8), .int (xs 7), .int (xs 6), .int (xs 5), .int (xs 4), .int (xs 3), .int (xs 2), .int (xs 1), .ref 30], (mm_fw1 (mm_zi 64) (.inr (10, mm_fw1f30 (.int 0))) (mm_zi 12288) [.inr (13, [])]))) 42 3000 rfl ?_
  refine mm_xcl (v := none) (w1 := (mm_fw1 (mm_zi 64) (.inr (10, mm_fw1f30 (.int 1))) (mm_zi 12288) [.inr (13, [])])) rfl ?_ ?_
  · skip
    refine mm_xk (S' := (1, [some (.ref 30), some (.int (xs 1)), some (.int (xs 2)), some (.int (xs 3)), some (.int (xs 4)), some (.int (xs 5)), some (.int (xs 6)), some (.int (xs 7)), some (.int (xs 8)), none, none, none, none, none], [.int (xs 1)], (mm_fw1 (mm_zi 64) (.inr (10, mm_fw1f30 (.int 0))) (mm_zi 12288) [.inr (13, [])]))) 1 3000 rfl ?_
    refine mm_xif1 rfl false (mm_lt0 (a := (xs 1).toInt) (b := 0) rfl rfl (by omega)) rfl ?_
    refine mm_xk (S' := (9, [some (.ref 30), some (.int (xs 1)), some (.int (xs 2)), some (.int (xs 3)), some (.int (xs 4)), some (.int (xs 5)), some (.int (xs 6)), some (.int (xs 7)), some (.int (xs 8)), none, none, none, none, none], [.int 1, .int (xs 1)], (mm_fw1 (mm_zi 64) (.inr (10, mm_fw1f30 (.int 0))) (mm_zi 12288) [.inr (13, [])]))) 3 3000 rfl ?_
    refine mm_xif2 rfl false (mm_ge0 (a := (xs 1).toInt) (b := 1) rfl rfl (by omega)) rfl ?_
    refine mm_xk (S' := (14, [some (.ref 30), some (.int (xs 1)), some (.int (xs 2)), some (.int (xs 3)), some (.int (xs 4)), some (.int (xs 5)), some (.int (xs 6)), some (.int (xs 7)), some (.int (xs 8)), none, none, none, none, none], [.int (xs 4)], (mm_fw1 (mm_zi 64) (.inr (10, mm_fw1f30 (.int 0))) (mm_zi 12288) [.inr (13, [])]))) 1 3000 rfl ?_
    refine mm_xif1 rfl false (mm_le0 (a := (xs 4).toInt) (b := 0) rfl rfl (by omega)) rfl ?_
    refine mm_xk (S' := (19, [some (.ref 30), some (.int (xs 1)), some (.int (xs 2)), some (.int (xs 3)), some (.int (xs 4)), some (.int (xs 5)), some (.int (xs 6)), some (.int (xs 7)), some (.int (xs 8)), none, none, none, none, none], [.int (xs 5)], (mm_fw1 (mm_zi 64) (.inr (10, mm_fw1f30 (.int 0))) (mm_zi 12288) [.inr (13, [])]))) 1 3000 rfl ?_
    refine mm_xif1 rfl false (mm_le0 (a := (xs 5).toInt) (b := 0) rfl rfl (by omega)) rfl ?_
    refine mm_xk (S' := (23, [some (.ref 30), some (.int (xs 1)), some (.int (xs 2)), some (.int (xs 3)), some (.int (xs 4)), some (.int (xs 5)), some (.int (xs 6)), some (.int (xs 7)), some (.int (xs 8)), none, none, none, none, none], [.int (xs 2)], (mm_fw1 (mm_zi 64) (.inr (10, mm_fw1f30 (.int 0))) (mm_zi 12288) [.inr (13, [])]))) 1 3000 rfl ?_
    refine mm_xif1 rfl false (mm_lt0 (a := (xs 2).toInt) (b := 0) rfl rfl (by omega)) rfl ?_
    refine mm_xk (S' := (27, [some (.ref 30), some (.int (xs 1)), some (.int (xs 2)), some (.int (xs 3)), some (.int (xs 4)), some (.int (xs 5)), some (.int (xs 6)), some (.int (xs 7)), some (.int (xs 8)), none, none, none, none, none], [.int (xs 3)], (mm_fw1 (mm_zi 64) (.inr (10, mm_fw1f30 (.int 0))) (mm_zi 12288) [.inr (13, [])]))) 1 3000 rfl ?_
    refine mm_xif1 rfl true (mm_lt1 (a := (xs 3).toInt) (b := 0) rfl rfl (by omega)) rfl ?_
    refine mm_xk (S' := (130, [some (.ref 30), some (.int (xs 1)), some (.int (xs 2)), some (.int (xs 3)), some (.int (xs 4)), some (.int (xs 5)), some (.int (xs 6)), some (.int (xs 7)), some (.int (xs 8)), some (.int 0), none, none, none, none], [], (mm_fw1 (mm_zi 64) (.inr (10, mm_fw1f30 (.int 1))) (mm_zi 12288) [.inr (13, [])]))) 8 3000 rfl ?_
    refine mm_xk (S' := (137, [some (.ref 30), some (.int (xs 1)), some (.int (xs 2)), some (.int (xs 3)), some (.int (xs 4)), some (.int (xs 5)), some (.int (xs 6)), some (.int (xs 7)), some (.int (xs 8)), some (.int 0), none, none, none, none], [], (mm_fw1 (mm_zi 64) (.inr (10, mm_fw1f30 (.int 1))) (mm_zi 12288) [.inr (13, [])]))) 3 3000 rfl ?_
    exact mm_xfn rfl
  refine mm_xk (S' := (1092, [some (.ref 1000004), some (.ref 0), some (.ref 30), some (.ref 47), some (.int 9), some (.int 1), none], [], (mm_fw1 (mm_zi 64) (.inr (10, mm_fw1f30 (.int 1))) (mm_zi 12288) [.inr (13, [])]))) 6 3000 rfl ?_
  refine mm_xk (S' := (1096, [some (.ref 1000004), some (.ref 0), some (.ref 30), some (.ref 47), some (.int 9), some (.int 1), none], [.int 1], (mm_fw1 (mm_zi 64) (.inr (10, mm_fw1f30 (.int 1))) (mm_zi 12288) [.inr (13, [])]))) 8 3000 rfl ?_
  exact mm_xfn rfl
set_option maxRecDepth 100000 in
set_option maxHeartbeats 4000000 in
theorem mm_lf1_3 (xs : Nat → Int32) (l1 : 0 ≤ (xs 1).toInt) (u1 : (xs 1).toInt ≤ 0) (l2 : 8 ≤ (xs 2).toInt) (l4 : 1 ≤ (xs 4).toInt) (u5 : (xs 5).toInt ≤ 0) : mm_Ok xs 192 := by
  refine mm_Ok_of (w' := ((mm_w0.set 30 (.inr (10, (mm_f30.set 0 (.int 1))))) ++ [.inr (13, [])])) (mm_szP 6 (mm_szS 63 mm_sz0 rfl) rfl) rfl rfl ?_
  refine mm_xk (S' := (244, [some (.ref 1000004), some (.ref 0), some (.ref 30), some (.ref 47), some (.int 0), none, none], [.int (xs 8), .int (xs 7), .int (xs 6), .int (xs 5), .int (xs 4), .int (xs 3), .int (xs 2), .int (xs 1), .ref 0], (mm_fw1 (mm_zi 64) (.inr (10, mm_fw1f30 (.int 0))) (mm_zi 12288) []))) 41 3000 rfl ?_
  refine mm_xcl (v := (some (.int 1))) (w1 := (mm_fw1 (mm_zi 64) (.inr (10, mm_fw1f30 (.int 0))) (mm_zi 12288) [.inr (13, [])])) rfl ?_ ?_
  · skip
    refine mm_xk (S' := (14, [some (.ref 0), some (.int (xs 1)), some (.int (xs 2)), some (.int (xs 3)), some (.int (xs 4)), some (.int (xs 5)), some (.int (xs 6)), some (.int (xs 7)), some (.int (xs 8)), none], [.int (xs 8), .int (xs 7), .int (xs 6), .int (xs 5), .int (xs 4), .int (xs 3), .int (xs 2), .int (xs 1), .ref 0], (mm_fw1 (mm_zi 64) (.inr (10, mm_fw1f30 (.int 0))) (mm_zi 12288) []))) 9 3000 rfl ?_
    refine mm_xct (x := 13) (hp := 20) (w1 := (mm_fw1 (mm_zi 64) (.inr (10, mm_fw1f30 (.int 0))) (mm_zi 12288) [.inr (13, [])])) rfl ?_ rfl ?_
    · skip
      refine mm_xk (S' := (7, [some (.ref 0), some (.int (xs 1)), some (.int (xs 2)), some (.int (xs 3)), some (.int (xs 4)), some (.int (xs 5)), some (.int (xs 6)), some (.int (xs 7)), some (.int (xs 8)), none, none, none, none, none, none], [.int (xs 3), .int (xs 2), .int (xs 1), .ref 1], (mm_fw1 (mm_zi 64) (.inr (10, mm_fw1f30 (.int 0))) (mm_zi 12288) []))) 5 3000 rfl ?_
      refine mm_xcl (v := (some (.int 0))) (w1 := (mm_fw1 (mm_zi 64) (.inr (10, mm_fw1f30 (.int 0))) (mm_zi 12288) [])) rfl ?_ ?_
      · skip
        refine mm_xk (S' := (1, [some (.ref 1), some (.int (xs 1)), some (.int (xs 2)), some (.int (xs 3))], [.int (xs 1)], (mm_fw1 (mm_zi 64) (.inr (10, mm_fw1f30 (.int 0))) (mm_zi 12288) []))) 1 3000 rfl ?_
        refine mm_xif1 rfl false (mm_lt0 (a := (xs 1).toInt) (b := 0) rfl rfl (by omega)) rfl ?_
        refine mm_xk (S' := (9, [some (.ref 1), some (.int (xs 1)), some (.int (xs 2)), some (.int (xs 3))], [.int 1, .int (xs 1)], (mm_fw1 (mm_zi 64) (.inr (10, mm_fw1f30 (.int 0))) (mm_zi 12288) []))) 3 3000 rfl ?_
        refine mm_xif2 rfl false (mm_ge0 (a := (xs 1).toInt) (b := 1) rfl rfl (by omega)) rfl ?_
        refine mm_xk (S' := (13, [some (.ref 1), some (.int (xs 1)), some (.int (xs 2)), some (.int (xs 3))], [.int (xs 2)], (mm_fw1 (mm_zi 64) (.inr (10, mm_fw1f30 (.int 0))) (mm_zi 12288) []))) 1 3000 rfl ?_
        refine mm_xif1 rfl false (mm_lt0 (a := (xs 2).toInt) (b := 0) rfl rfl (by omega)) rfl ?_
        refine mm_xk (S' := (21, [some (.ref 1), some (.int (xs 1)), some (.int (xs 2)), some (.int (xs 3))], [.int 8, .int (xs 2)], (mm_fw1 (mm_zi 64) (.inr (10, mm_fw1f30 (.int 0))) (mm_zi 12288) []))) 3 3000 rfl ?_
        refine mm_xif2 rfl true (mm_ge1 (a := (xs 2).toInt) (b := 8) rfl rfl (by omega)) rfl ?_
        refine mm_xk (S' := (41, [some (.ref 1), some (.int (xs 1)), some (.int (xs 2)), some (.int (xs 3))], [.int 0], (mm_fw1 (mm_zi 64) (.inr (10, mm_fw1f30 (.int 0))) (mm_zi 12288) []))) 1 3000 rfl ?_
        exact mm_xfn rfl
      refine mm_xk (S' := (29, [some (.ref 0), some (.int (xs 1)), some (.int (xs 2)), some (.int (xs 3)), some (.int (xs 4)), some (.int (xs 5)), some (.int (xs 6)), some (.int (xs 7)), some (.int (xs 8)), none, none, none, none, none, none], [], (mm_fw1 (mm_zi 64) (.inr (10, mm_fw1f30 (.int 0))) (mm_zi 12288) []))) 1 3000 rfl ?_
      exact mm_xfn rfl
    refine mm_xk (S' := (23, [some (.ref 0), some (.int (xs 1)), some (.int (xs 2)), some (.int (xs 3)), some (.int (xs 4)), some (.int (xs 5)), some (.int (xs 6)), some (.int (xs 7)), some (.int (xs 8)), some (.ref 48)], [.int 1], (mm_fw1 (mm_zi 64) (.inr (10, mm_fw1f30 (.int 0))) (mm_zi 12288) [.inr (13, [])]))) 2 3000 rfl ?_
    exact mm_xfn rfl
  refine mm_xk (S' := (301, [some (.ref 1000004), some (.ref 0), some (.ref 30), some (.ref 47), some (.int 0), some (.int 1), none], [.int (xs 8), .int (xs 7), .int (xs 6), .int (xs 5), .int (xs 4), .int (xs 3), .int (xs 2), .int (xs 1), .ref 30], (mm_fw1 (mm_zi 64) (.inr (10, mm_fw1f30 (.int 0))) (mm_zi 12288) [.inr (13, [])]))) 42 3000 rfl ?_
  refine mm_xcl (v := none) (w1 := (mm_fw1 (mm_zi 64) (.inr (10, mm_fw1f30 (.int 1))) (mm_zi 12288) [.inr (13, [])])) rfl ?_ ?_
  · skip
    refine mm_xk (S' := (1, [some (.ref 30), some (.int (xs 1)), some (.int (xs 2)), some (.int (xs 3)), some (.int (xs 4)), some (.int (xs 5)), some (.int (xs 6)), some (.int (xs 7)), some (.int (xs 8)), none, none, none, none, none], [.int (xs 1)], (mm_fw1 (mm_zi 64) (.inr (10, mm_fw1f30 (.int 0))) (mm_zi 12288) [.inr (13, [])]))) 1 3000 rfl ?_
    refine mm_xif1 rfl false (mm_lt0 (a := (xs 1).toInt) (b := 0) rfl rfl (by omega)) rfl ?_
    refine mm_xk (S' := (9, [some (.ref 30), some (.int (xs 1)), some (.int (xs 2)), some (.int (xs 3)), some (.int (xs 4)), some (.int (xs 5)), some (.int (xs 6)), some (.int (xs 7)), some (.int (xs 8)), none, none, none, none, none], [.int 1, .int (xs 1)], (mm_fw1 (mm_zi 64) (.inr (10, mm_fw1f30 (.int 0))) (mm_zi 12288) [.inr (13, [])]))) 3 3000 rfl ?_
    refine mm_xif2 rfl false (mm_ge0 (a := (xs 1).toInt) (b := 1) rfl rfl (by omega)) rfl ?_
    refine mm_xk (S' := (14, [some (.ref 30), some (.int (xs 1)), some (.int (xs 2)), some (.int (xs 3)), some (.int (xs 4)), some (.int (xs 5)), some (.int (xs 6)), some (.int (xs 7)), some (.int (xs 8)), none, none, none, none, none], [.int (xs 4)], (mm_fw1 (mm_zi 64) (.inr (10, mm_fw1f30 (.int 0))) (mm_zi 12288) [.inr (13, [])]))) 1 3000 rfl ?_
    refine mm_xif1 rfl false (mm_le0 (a := (xs 4).toInt) (b := 0) rfl rfl (by omega)) rfl ?_
    refine mm_xk (S' := (19, [some (.ref 30), some (.int (xs 1)), some (.int (xs 2)), some (.int (xs 3)), some (.int (xs 4)), some (.int (xs 5)), some (.int (xs 6)), some (.int (xs 7)), some (.int (xs 8)), none, none, none, none, none], [.int (xs 5)], (mm_fw1 (mm_zi 64) (.inr (10, mm_fw1f30 (.int 0))) (mm_zi 12288) [.inr (13, [])]))) 1 3000 rfl ?_
    refine mm_xif1 rfl true (mm_le1 (a := (xs 5).toInt) (b := 0) rfl rfl (by omega)) rfl ?_
    refine mm_xk (S' := (130, [some (.ref 30), some (.int (xs 1)), some (.int (xs 2)), some (.int (xs 3)), some (.int (xs 4)), some (.int (xs 5)), some (.int (xs 6)), some (.int (xs 7)), some (.int (xs 8)), some (.int 0), none, none, none, none], [], (mm_fw1 (mm_zi 64) (.inr (10, mm_fw1f30 (.int 1))) (mm_zi 12288) [.inr (13, [])]))) 8 3000 rfl ?_
    refine mm_xk (S' := (137, [some (.ref 30), some (.int (xs 1)), some (.int (xs 2)), some (.int (xs 3)), some (.int (xs 4)), some (.int (xs 5)), some (.int (xs 6)), some (.int (xs 7)), some (.int (xs 8)), some (.int 0), none, none, none, none], [], (mm_fw1 (mm_zi 64) (.inr (10, mm_fw1f30 (.int 1))) (mm_zi 12288) [.inr (13, [])]))) 3 3000 rfl ?_
    exact mm_xfn rfl
  refine mm_xk (S' := (1092, [some (.ref 1000004), some (.ref 0), some (.ref 30), some (.ref 47), some (.int 9), some (.int 1), none], [], (mm_fw1 (mm_zi 64) (.inr (10, mm_fw1f30 (.int 1))) (mm_zi 12288) [.inr (13, [])]))) 6 3000 rfl ?_
  refine mm_xk (S' := (1096, [some (.ref 1000004), some (.ref 0), some (.ref 30), some (.ref 47), some (.int 9), some (.int 1), none], [.int 1], (mm_fw1 (mm_zi 64) (.inr (10, mm_fw1f30 (.int 1))) (mm_zi 12288) [.inr (13, [])]))) 8 3000 rfl ?_
  exact mm_xfn rfl
set_option maxRecDepth 100000 in
set_option maxHeartbeats 4000000 in
theorem mm_lf1_4 (xs : Nat → Int32) (l1 : 0 ≤ (xs 1).toInt) (u1 : (xs 1).toInt ≤ 0) (l2 : 8 ≤ (xs 2).toInt) (u4 : (xs 4).toInt ≤ 0) : mm_Ok xs 192 := by
  refine mm_Ok_of (w' := ((mm_w0.set 30 (.inr (10, (mm_f30.set 0 (.int 1))))) ++ [.inr (13, [])])) (mm_szP 6 (mm_szS 63 mm_sz0 rfl) rfl) rfl rfl ?_
  refine mm_xk (S' := (244, [some (.ref 1000004), some (.ref 0), some (.ref 30), some (.ref 47), some (.int 0), none, none], [.int (xs 8), .int (xs 7), .int (xs 6), .int (xs 5), .int (xs 4), .int (xs 3), .int (xs 2), .int (xs 1), .ref 0], (mm_fw1 (mm_zi 64) (.inr (10, mm_fw1f30 (.int 0))) (mm_zi 12288) []))) 41 3000 rfl ?_
  refine mm_xcl (v := (some (.int 1))) (w1 := (mm_fw1 (mm_zi 64) (.inr (10, mm_fw1f30 (.int 0))) (mm_zi 12288) [.inr (13, [])])) rfl ?_ ?_
  · skip
    refine mm_xk (S' := (14, [some (.ref 0), some (.int (xs 1)), some (.int (xs 2)), some (.int (xs 3)), some (.int (xs 4)), some (.int (xs 5)), some (.int (xs 6)), some (.int (xs 7)), some (.int (xs 8)), none], [.int (xs 8), .int (xs 7), .int (xs 6), .int (xs 5), .int (xs 4), .int (xs 3), .int (xs 2), .int (xs 1), .ref 0], (mm_fw1 (mm_zi 64) (.inr (10, mm_fw1f30 (.int 0))) (mm_zi 12288) []))) 9 3000 rfl ?_
    refine mm_xct (x := 13) (hp := 20) (w1 := (mm_fw1 (mm_zi 64) (.inr (10, mm_fw1f30 (.int 0))) (mm_zi 12288) [.inr (13, [])])) rfl ?_ rfl ?_
    · skip
      refine mm_xk (S' := (7, [some (.ref 0), some (.int (xs 1)), some (.int (xs 2)), some (.int (xs 3)), some (.int (xs 4)), some (.int (xs 5)), some (.int (xs 6)), some (.int (xs 7)), some (.int (xs 8)), none, none, none, none, none, none], [.int (xs 3), .int (xs 2), .int (xs 1), .ref 1], (mm_fw1 (mm_zi 64) (.inr (10, mm_fw1f30 (.int 0))) (mm_zi 12288) []))) 5 3000 rfl ?_
      refine mm_xcl (v := (some (.int 0))) (w1 := (mm_fw1 (mm_zi 64) (.inr (10, mm_fw1f30 (.int 0))) (mm_zi 12288) [])) rfl ?_ ?_
      · skip
        refine mm_xk (S' := (1, [some (.ref 1), some (.int (xs 1)), some (.int (xs 2)), some (.int (xs 3))], [.int (xs 1)], (mm_fw1 (mm_zi 64) (.inr (10, mm_fw1f30 (.int 0))) (mm_zi 12288) []))) 1 3000 rfl ?_
        refine mm_xif1 rfl false (mm_lt0 (a := (xs 1).toInt) (b := 0) rfl rfl (by omega)) rfl ?_
        refine mm_xk (S' := (9, [some (.ref 1), some (.int (xs 1)), some (.int (xs 2)), some (.int (xs 3))], [.int 1, .int (xs 1)], (mm_fw1 (mm_zi 64) (.inr (10, mm_fw1f30 (.int 0))) (mm_zi 12288) []))) 3 3000 rfl ?_
        refine mm_xif2 rfl false (mm_ge0 (a := (xs 1).toInt) (b := 1) rfl rfl (by omega)) rfl ?_
        refine mm_xk (S' := (13, [some (.ref 1), some (.int (xs 1)), some (.int (xs 2)), some (.int (xs 3))], [.int (xs 2)], (mm_fw1 (mm_zi 64) (.inr (10, mm_fw1f30 (.int 0))) (mm_zi 12288) []))) 1 3000 rfl ?_
        refine mm_xif1 rfl false (mm_lt0 (a := (xs 2).toInt) (b := 0) rfl rfl (by omega)) rfl ?_
        refine mm_xk (S' := (21, [some (.ref 1), some (.int (xs 1)), some (.int (xs 2)), some (.int (xs 3))], [.int 8, .int (xs 2)], (mm_fw1 (mm_zi 64) (.inr (10, mm_fw1f30 (.int 0))) (mm_zi 12288) []))) 3 3000 rfl ?_
        refine mm_xif2 rfl true (mm_ge1 (a := (xs 2).toInt) (b := 8) rfl rfl (by omega)) rfl ?_
        refine mm_xk (S' := (41, [some (.ref 1), some (.int (xs 1)), some (.int (xs 2)), some (.int (xs 3))], [.int 0], (mm_fw1 (mm_zi 64) (.inr (10, mm_fw1f30 (.int 0))) (mm_zi 12288) []))) 1 3000 rfl ?_
        exact mm_xfn rfl
      refine mm_xk (S' := (29, [some (.ref 0), some (.int (xs 1)), some (.int (xs 2)), some (.int (xs 3)), some (.int (xs 4)), some (.int (xs 5)), some (.int (xs 6)), some (.int (xs 7)), some (.int (xs 8)), none, none, none, none, none, none], [], (mm_fw1 (mm_zi 64) (.inr (10, mm_fw1f30 (.int 0))) (mm_zi 12288) []))) 1 3000 rfl ?_
      exact mm_xfn rfl
    refine mm_xk (S' := (23, [some (.ref 0), some (.int (xs 1)), some (.int (xs 2)), some (.int (xs 3)), some (.int (xs 4)), some (.int (xs 5)), some (.int (xs 6)), some (.int (xs 7)), some (.int (xs 8)), some (.ref 48)], [.int 1], (mm_fw1 (mm_zi 64) (.inr (10, mm_fw1f30 (.int 0))) (mm_zi 12288) [.inr (13, [])]))) 2 3000 rfl ?_
    exact mm_xfn rfl
  refine mm_xk (S' := (301, [some (.ref 1000004), some (.ref 0), some (.ref 30), some (.ref 47), some (.int 0), some (.int 1), none], [.int (xs 8), .int (xs 7), .int (xs 6), .int (xs 5), .int (xs 4), .int (xs 3), .int (xs 2), .int (xs 1), .ref 30], (mm_fw1 (mm_zi 64) (.inr (10, mm_fw1f30 (.int 0))) (mm_zi 12288) [.inr (13, [])]))) 42 3000 rfl ?_
  refine mm_xcl (v := none) (w1 := (mm_fw1 (mm_zi 64) (.inr (10, mm_fw1f30 (.int 1))) (mm_zi 12288) [.inr (13, [])])) rfl ?_ ?_
  · skip
    refine mm_xk (S' := (1, [some (.ref 30), some (.int (xs 1)), some (.int (xs 2)), some (.int (xs 3)), some (.int (xs 4)), some (.int (xs 5)), some (.int (xs 6)), some (.int (xs 7)), some (.int (xs 8)), none, none, none, none, none], [.int (xs 1)], (mm_fw1 (mm_zi 64) (.inr (10, mm_fw1f30 (.int 0))) (mm_zi 12288) [.inr (13, [])]))) 1 3000 rfl ?_
    refine mm_xif1 rfl false (mm_lt0 (a := (xs 1).toInt) (b := 0) rfl rfl (by omega)) rfl ?_
    refine mm_xk (S' := (9, [some (.ref 30), some (.int (xs 1)), some (.int (xs 2)), some (.int (xs 3)), some (.int (xs 4)), some (.int (xs 5)), some (.int (xs 6)), some (.int (xs 7)), some (.int (xs 8)), none, none, none, none, none], [.int 1, .int (xs 1)], (mm_fw1 (mm_zi 64) (.inr (10, mm_fw1f30 (.int 0))) (mm_zi 12288) [.inr (13, [])]))) 3 3000 rfl ?_
    refine mm_xif2 rfl false (mm_ge0 (a := (xs 1).toInt) (b := 1) rfl rfl (by omega)) rfl ?_
    refine mm_xk (S' := (14, [some (.ref 30), some (.int (xs 1)), some (.int (xs 2)), some (.int (xs 3)), some (.int (xs 4)), some (.int (xs 5)), some (.int (xs 6)), some (.int (xs 7)), some (.int (xs 8)), none, none, none, none, none], [.int (xs 4)], (mm_fw1 (mm_zi 64) (.inr (10, mm_fw1f30 (.int 0))) (mm_zi 12288) [.inr (13, [])]))) 1 3000 rfl ?_
    refine mm_xif1 rfl true (mm_le1 (a := (xs 4).toInt) (b := 0) rfl rfl (by omega)) rfl ?_
    refine mm_xk (S' := (130, [some (.ref 30), some (.int (xs 1)), some (.int (xs 2)), some (.int (xs 3)), some (.int (xs 4)), some (.int (xs 5)), some (.int (xs 6)), some (.int (xs 7)), some (.int (xs 8)), some (.int 0), none, none, none, none], [], (mm_fw1 (mm_zi 64) (.inr (10, mm_fw1f30 (.int 1))) (mm_zi 12288) [.inr (13, [])]))) 8 3000 rfl ?_
    refine mm_xk (S' := (137, [some (.ref 30), some (.int (xs 1)), some (.int (xs 2)), some (.int (xs 3)), some (.int (xs 4)), some (.int (xs 5)), some (.int (xs 6)), some (.int (xs 7)), some (.int (xs 8)), some (.int 0), none, none, none, none], [], (mm_fw1 (mm_zi 64) (.inr (10, mm_fw1f30 (.int 1))) (mm_zi 12288) [.inr (13, [])]))) 3 3000 rfl ?_
    exact mm_xfn rfl
  refine mm_xk (S' := (1092, [some (.ref 1000004), some (.ref 0), some (.ref 30), some (.ref 47), some (.int 9), some (.int 1), none], [], (mm_fw1 (mm_zi 64) (.inr (10, mm_fw1f30 (.int 1))) (mm_zi 12288) [.inr (13, [])]))) 6 3000 rfl ?_
  refine mm_xk (S' := (1096, [some (.ref 1000004), some (.ref 0), some (.ref 30), some (.ref 47), some (.int 9), some (.int 1), none], [.int 1], (mm_fw1 (mm_zi 64) (.inr (10, mm_fw1f30 (.int 1))) (mm_zi 12288) [.inr (13, [])]))) 8 3000 rfl ?_
  exact mm_xfn rfl
set_option maxRecDepth 100000 in
set_option maxHeartbeats 4000000 in
theorem mm_lf1_5 (xs : Nat → Int32) (l1 : 0 ≤ (xs 1).toInt) (u1 : (xs 1).toInt ≤ 0) (l2 : 0 ≤ (xs 2).toInt) (u2 : (xs 2).toInt ≤ 7) (l3 : 8 ≤ (xs 3).toInt) (l4 : 1 ≤ (xs 4).toInt) (l5 : 1 ≤ (xs 5).toInt) : mm_Ok xs 192 := by
  refine mm_Ok_of (w' := ((mm_w0.set 30 (.inr (10, (mm_f30.set 0 (.int 1))))) ++ [.inr (13, [])])) (mm_szP 6 (mm_szS 63 mm_sz0 rfl) rfl) rfl rfl ?_
  refine mm_xk (S' := (244, [some (.ref 1000004), some (.ref 0), some (.ref 30), some (.ref 47), some (.int 0), none, none], [.int (xs 8), .int (xs 7), .int (xs 6), .int (xs 5), .int (xs 4), .int (xs 3), .int (xs 2), .int (xs 1), .ref 0], (mm_fw1 (mm_zi 64) (.inr (10, mm_fw1f30 (.int 0))) (mm_zi 12288) []))) 41 3000 rfl ?_
  refine mm_xcl (v := (some (.int 1))) (w1 := (mm_fw1 (mm_zi 64) (.inr (10, mm_fw1f30 (.int 0))) (mm_zi 12288) [.inr (13, [])])) rfl ?_ ?_
  · skip
    refine mm_xk (S' := (14, [some (.ref 0), some (.int (xs 1)), some (.int (xs 2)), some (.int (xs 3)), some (.int (xs 4)), some (.int (xs 5)), some (.int (xs 6)), some (.int (xs 7)), some (.int (xs 8)), none], [.int (xs 8), .int (xs 7), .int (xs 6), .int (xs 5), .int (xs 4), .int (xs 3), .int (xs 2), .int (xs 1), .ref 0], (mm_fw1 (mm_zi 64) (.inr (10, mm_fw1f30 (.int 0))) (mm_zi 12288) []))) 9 3000 rfl ?_
    refine mm_xct (x := 13) (hp := 20) (w1 := (mm_fw1 (mm_zi 64) (.inr (10, mm_fw1f30 (.int 0))) (mm_zi 12288) [.inr (13, [])])) rfl ?_ rfl ?_
    · skip
      refine mm_xk (S' := (7, [some (.ref 0), some (.int (xs 1)), some (.int (xs 2)), some (.int (xs 3)), some (.int (xs 4)), some (.int (xs 5)), some (.int (xs 6)), some (.int (xs 7)), some (.int (xs 8)), none, none, none, none, none, none], [.int (xs 3), .int (xs 2), .int (xs 1), .ref 1], (mm_fw1 (mm_zi 64) (.inr (10, mm_fw1f30 (.int 0))) (mm_zi 12288) []))) 5 3000 rfl ?_
      refine mm_xcl (v := (some (.int 0))) (w1 := (mm_fw1 (mm_zi 64) (.inr (10, mm_fw1f30 (.int 0))) (mm_zi 12288) [])) rfl ?_ ?_
      · skip
        refine mm_xk (S' := (1, [some (.ref 1), some (.int (xs 1)), some (.int (xs 2)), some (.int (xs 3))], [.int (xs 1)], (mm_fw1 (mm_zi 64) (.inr (10, mm_fw1f30 (.int 0))) (mm_zi 12288) []))) 1 3000 rfl ?_
        refine mm_xif1 rfl false (mm_lt0 (a := (xs 1).toInt) (b := 0) rfl rfl (by omega)) rfl ?_
        refine mm_xk (S' := (9, [some (.ref 1), some (.int (xs 1)), some (.int (xs 2)), some (.int (xs 3))], [.int 1, .int (xs 1)], (mm_fw1 (mm_zi 64) (.inr (10, mm_fw1f30 (.int 0))) (mm_zi 12288) []))) 3 3000 rfl ?_
        refine mm_xif2 rfl false (mm_ge0 (a := (xs 1).toInt) (b := 1) rfl rfl (by omega)) rfl ?_
        refine mm_xk (S' := (13, [some (.ref 1), some (.int (xs 1)), some (.int (xs 2)), some (.int (xs 3))], [.int (xs 2)], (mm_fw1 (mm_zi 64) (.inr (10, mm_fw1f30 (.int 0))) (mm_zi 12288) []))) 1 3000 rfl ?_
        refine mm_xif1 rfl false (mm_lt0 (a := (xs 2).toInt) (b := 0) rfl rfl (by omega)) rfl ?_
        refine mm_xk (S' := (21, [some (.ref 1), some (.int (xs 1)), some (.int (xs 2)), some (.int (xs 3))], [.int 8, .int (xs 2)], (mm_fw1 (mm_zi 64) (.inr (10, mm_fw1f30 (.int 0))) (mm_zi 12288) []))) 3 3000 rfl ?_
        refine mm_xif2 rfl false (mm_ge0 (a := (xs 2).toInt) (b := 8) rfl rfl (by omega)) rfl ?_
        refine mm_xk (S' := (25, [some (.ref 1), some (.int (xs 1)), some (.int (xs 2)), some (.int (xs 3))], [.int (xs 3)], (mm_fw1 (mm_zi 64) (.inr (10, mm_fw1f30 (.int 0))) (mm_zi 12288) []))) 1 3000 rfl ?_
        refine mm_xif1 rfl false (mm_lt0 (a := (xs 3).toInt) (b := 0) rfl rfl (by omega)) rfl ?_
        refine mm_xk (S' := (33, [some (.ref 1), some (.int (xs 1)), some (.int (xs 2)), some (.int (xs 3))], [.int 8, .int (xs 3)], (mm_fw1 (mm_zi 64) (.inr (10, mm_fw1f30 (.int 0))) (mm_zi 12288) []))) 3 3000 rfl ?_
        refine mm_xif2 rfl true (mm_ge1 (a := (xs 3).toInt) (b := 8) rfl rfl (by omega)) rfl ?_
        refine mm_xk (S' := (41, [some (.ref 1), some (.int (xs 1)), some (.int (xs 2)), some (.int (xs 3))], [.int 0], (mm_fw1 (mm_zi 64) (.inr (10, mm_fw1f30 (.int 0))) (mm_zi 12288) []))) 1 3000 rfl ?_
        exact mm_xfn rfl
      refine mm_xk (S' := (29, [some (.ref 0), some (.int (xs 1)), some (.int (xs 2)), some (.int (xs 3)), some (.int (xs 4)), some (.int (xs 5)), some (.int (xs 6)), some (.int (xs 7)), some (.int (xs 8)), none, none, none, none, none, none], [], (mm_fw1 (mm_zi 64) (.inr (10, mm_fw1f30 (.int 0))) (mm_zi 12288) []))) 1 3000 rfl ?_
      exact mm_xfn rfl
    refine mm_xk (S' := (23, [some (.ref 0), some (.int (xs 1)), some (.int (xs 2)), some (.int (xs 3)), some (.int (xs 4)), some (.int (xs 5)), some (.int (xs 6)), some (.int (xs 7)), some (.int (xs 8)), some (.ref 48)], [.int 1], (mm_fw1 (mm_zi 64) (.inr (10, mm_fw1f30 (.int 0))) (mm_zi 12288) [.inr (13, [])]))) 2 3000 rfl ?_
    exact mm_xfn rfl
  refine mm_xk (S' := (301, [some (.ref 1000004), some (.ref 0), some (.ref 30), some (.ref 47), some (.int 0), some (.int 1), none], [.int (xs 8), .int (xs 7), .int (xs 6), .int (xs 5), .int (xs 4), .int (xs 3), .int (xs 2), .int (xs 1), .ref 30], (mm_fw1 (mm_zi 64) (.inr (10, mm_fw1f30 (.int 0))) (mm_zi 12288) [.inr (13, [])]))) 42 3000 rfl ?_
  refine mm_xcl (v := none) (w1 := (mm_fw1 (mm_zi 64) (.inr (10, mm_fw1f30 (.int 1))) (mm_zi 12288) [.inr (13, [])])) rfl ?_ ?_
  · skip
    refine mm_xk (S' := (1, [some (.ref 30), some (.int (xs 1)), some (.int (xs 2)), some (.int (xs 3)), some (.int (xs 4)), some (.int (xs 5)), some (.int (xs 6)), some (.int (xs 7)), some (.int (xs 8)), none, none, none, none, none], [.int (xs 1)], (mm_fw1 (mm_zi 64) (.inr (10, mm_fw1f30 (.int 0))) (mm_zi 12288) [.inr (13, [])]))) 1 3000 rfl ?_
    refine mm_xif1 rfl false (mm_lt0 (a := (xs 1).toInt) (b := 0) rfl rfl (by omega)) rfl ?_
    refine mm_xk (S' := (9, [some (.ref 30), some (.int (xs 1)), some (.int (xs 2)), some (.int (xs 3)), some (.int (xs 4)), some (.int (xs 5)), some (.int (xs 6)), some (.int (xs 7)), some (.int (xs 8)), none, none, none, none, none], [.int 1, .int (xs 1)], (mm_fw1 (mm_zi 64) (.inr (10, mm_fw1f30 (.int 0))) (mm_zi 12288) [.inr (13, [])]))) 3 3000 rfl ?_
    refine mm_xif2 rfl false (mm_ge0 (a := (xs 1).toInt) (b := 1) rfl rfl (by omega)) rfl ?_
    refine mm_xk (S' := (14, [some (.ref 30), some (.int (xs 1)), some (.int (xs 2)), some (.int (xs 3)), some (.int (xs 4)), some (.int (xs 5)), some (.int (xs 6)), some (.int (xs 7)), some (.int (xs 8)), none, none, none, none, none], [.int (xs 4)], (mm_fw1 (mm_zi 64) (.inr (10, mm_fw1f30 (.int 0))) (mm_zi 12288) [.inr (13, [])]))) 1 3000 rfl ?_
    refine mm_xif1 rfl false (mm_le0 (a := (xs 4).toInt) (b := 0) rfl rfl (by omega)) rfl ?_
    refine mm_xk (S' := (19, [some (.ref 30), some (.int (xs 1)), some (.int (xs 2)), some (.int (xs 3)), some (.int (xs 4)), some (.int (xs 5)), some (.int (xs 6)), some (.int (xs 7)), some (.int (xs 8)), none, none, none, none, none], [.int (xs 5)], (mm_fw1 (mm_zi 64) (.inr (10, mm_fw1f30 (.int 0))) (mm_zi 12288) [.inr (13, [])]))) 1 3000 rfl ?_
    refine mm_xif1 rfl false (mm_le0 (a := (xs 5).toInt) (b := 0) rfl rfl (by omega)) rfl ?_
    refine mm_xk (S' := (23, [some (.ref 30), some (.int (xs 1)), some (.int (xs 2)), some (.int (xs 3)), some (.int (xs 4)), some (.int (xs 5)), some (.int (xs 6)), some (.int (xs 7)), some (.int (xs 8)), none, none, none, none, none], [.int (xs 2)], (mm_fw1 (mm_zi 64) (.inr (10, mm_fw1f30 (.int 0))) (mm_zi 12288) [.inr (13, [])]))) 1 3000 rfl ?_
    refine mm_xif1 rfl false (mm_lt0 (a := (xs 2).toInt) (b := 0) rfl rfl (by omega)) rfl ?_
    refine mm_xk (S' := (27, [some (.ref 30), some (.int (xs 1)), some (.int (xs 2)), some (.int (xs 3)), some (.int (xs 4)), some (.int (xs 5)), some (.int (xs 6)), some (.int (xs 7)), some (.int (xs 8)), none, none, none, none, none], [.int (xs 3)], (mm_fw1 (mm_zi 64) (.inr (10, mm_fw1f30 (.int 0))) (mm_zi 12288) [.inr (13, [])]))) 1 3000 rfl ?_
    refine mm_xif1 rfl false (mm_lt0 (a := (xs 3).toInt) (b := 0) rfl rfl (by omega)) rfl ?_
    refine mm_xk (S' := (35, [some (.ref 30), some (.int (xs 1)), some (.int (xs 2)), some (.int (xs 3)), some (.int (xs 4)), some (.int (xs 5)), some (.int (xs 6)), some (.int (xs 7)), some (.int (xs 8)), none, none, none, none, none], [.int 8, .int (xs 2)], (mm_fw1 (mm_zi 64) (.inr (10, mm_fw1f30 (.int 0))) (mm_zi 12288) [.inr (13, [])]))) 3 3000 rfl ?_
    refine mm_xif2 rfl false (mm_ge0 (a := (xs 2).toInt) (b := 8) rfl rfl (by omega)) rfl ?_
    refine mm_xk (S' := (43, [some (.ref 30), some (.int (xs 1)), some (.int (xs 2)), some (.int (xs 3)), some (.int (xs 4)), some (.int (xs 5)), some (.int (xs 6)), some (.int (xs 7)), some (.int (xs 8)), none, none, none, none, none], [.int 8, .int (xs 3)], (mm_fw1 (mm_zi 64) (.inr (10, mm_fw1f30 (.int 0))) (mm_zi 12288) [.inr (13, [])]))) 3 3000 rfl ?_
    refine mm_xif2 rfl true (mm_ge1 (a := (xs 3).toInt) (b := 8) rfl rfl (by omega)) rfl ?_
    refine mm_xk (S' := (130, [some (.ref 30), some (.int (xs 1)), some (.int (xs 2)), some (.int (xs 3)), some (.int (xs 4)), some (.int (xs 5)), some (.int (xs 6)), some (.int (xs 7)), some (.int (xs 8)), some (.int 0), none, none, none, none], [], (mm_fw1 (mm_zi 64) (.inr (10, mm_fw1f30 (.int 1))) (mm_zi 12288) [.inr (13, [])]))) 8 3000 rfl ?_
    refine mm_xk (S' := (137, [some (.ref 30), some (.int (xs 1)), some (.int (xs 2)), some (.int (xs 3)), some (.int (xs 4)), some (.int (xs 5)), some (.int (xs 6)), some (.int (xs 7)), some (.int (xs 8)), some (.int 0), none, none, none, none], [], (mm_fw1 (mm_zi 64) (.inr (10, mm_fw1f30 (.int 1))) (mm_zi 12288) [.inr (13, [])]))) 3 3000 rfl ?_
    exact mm_xfn rfl
  refine mm_xk (S' := (1092, [some (.ref 1000004), some (.ref 0), some (.ref 30), some (.ref 47), some (.int 9), some (.int 1), none], [], (mm_fw1 (mm_zi 64) (.inr (10, mm_fw1f30 (.int 1))) (mm_zi 12288) [.inr (13, [])]))) 6 3000 rfl ?_
  refine mm_xk (S' := (1096, [some (.ref 1000004), some (.ref 0), some (.ref 30), some (.ref 47), some (.int 9), some (.int 1), none], [.int 1], (mm_fw1 (mm_zi 64) (.inr (10, mm_fw1f30 (.int 1))) (mm_zi 12288) [.inr (13, [])]))) 8 3000 rfl ?_
  exact mm_xfn rfl
set_option maxRecDepth 100000 in
set_option maxHeartbeats 4000000 in
theorem mm_lf1_6 (xs : Nat → Int32) (l1 : 0 ≤ (xs 1).toInt) (u1 : (xs 1).toInt ≤ 0) (l2 : 0 ≤ (xs 2).toInt) (u2 : (xs 2).toInt ≤ 7) (l3 : 8 ≤ (xs 3).toInt) (l4 : 1 ≤ (xs 4).toInt) (u5 : (xs 5).toInt ≤ 0) : mm_Ok xs 192 := by
  refine mm_Ok_of (w' := ((mm_w0.set 30 (.inr (10, (mm_f30.set 0 (.int 1))))) ++ [.inr (13, [])])) (mm_szP 6 (mm_szS 63 mm_sz0 rfl) rfl) rfl rfl ?_
  refine mm_xk (S' := (244, [some (.ref 1000004), some (.ref 0), some (.ref 30), some (.ref 47), some (.int 0), none, none], [.int (xs 8), .int (xs 7), .int (xs 6), .int (xs 5), .int (xs 4), .int (xs 3), .int (xs 2), .int (xs 1), .ref 0], (mm_fw1 (mm_zi 64) (.inr (10, mm_fw1f30 (.int 0))) (mm_zi 12288) []))) 41 3000 rfl ?_
  refine mm_xcl (v := (some (.int 1))) (w1 := (mm_fw1 (mm_zi 64) (.inr (10, mm_fw1f30 (.int 0))) (mm_zi 12288) [.inr (13, [])])) rfl ?_ ?_
  · skip
    refine mm_xk (S' := (14, [some (.ref 0), some (.int (xs 1)), some (.int (xs 2)), some (.int (xs 3)), some (.int (xs 4)), some (.int (xs 5)), some (.int (xs 6)), some (.int (xs 7)), some (.int (xs 8)), none], [.int (xs 8), .int (xs 7), .int (xs 6), .int (xs 5), .int (xs 4), .int (xs 3), .int (xs 2), .int (xs 1), .ref 0], (mm_fw1 (mm_zi 64) (.inr (10, mm_fw1f30 (.int 0))) (mm_zi 12288) []))) 9 3000 rfl ?_
    refine mm_xct (x := 13) (hp := 20) (w1 := (mm_fw1 (mm_zi 64) (.inr (10, mm_fw1f30 (.int 0))) (mm_zi 12288) [.inr (13, [])])) rfl ?_ rfl ?_
    · skip
      refine mm_xk (S' := (7, [some (.ref 0), some (.int (xs 1)), some (.int (xs 2)), some (.int (xs 3)), some (.int (xs 4)), some (.int (xs 5)), some (.int (xs 6)), some (.int (xs 7)), some (.int (xs 8)), none, none, none, none, none, none], [.int (xs 3), .int (xs 2), .int (xs 1), .ref 1], (mm_fw1 (mm_zi 64) (.inr (10, mm_fw1f30 (.int 0))) (mm_zi 12288) []))) 5 3000 rfl ?_
      refine mm_xcl (v := (some (.int 0))) (w1 := (mm_fw1 (mm_zi 64) (.inr (10, mm_fw1f30 (.int 0))) (mm_zi 12288) [])) rfl ?_ ?_
      · skip
        refine mm_xk (S' := (1, [some (.ref 1), some (.int (xs 1)), some (.int (xs 2)), some (.int (xs 3))], [.int (xs 1)], (mm_fw1 (mm_zi 64) (.inr (10, mm_fw1f30 (.int 0))) (mm_zi 12288) []))) 1 3000 rfl ?_
        refine mm_xif1 rfl false (mm_lt0 (a := (xs 1).toInt) (b := 0) rfl rfl (by omega)) rfl ?_
        refine mm_xk (S' := (9, [some (.ref 1), some (.int (xs 1)), some (.int (xs 2)), some (.int (xs 3))], [.int 1, .int (xs 1)], (mm_fw1 (mm_zi 64) (.inr (10, mm_fw1f30 (.int 0))) (mm_zi 12288) []))) 3 3000 rfl ?_
        refine mm_xif2 rfl false (mm_ge0 (a := (xs 1).toInt) (b := 1) rfl rfl (by omega)) rfl ?_
        refine mm_xk (S' := (13, [some (.ref 1), some (.int (xs 1)), some (.int (xs 2)), some (.int (xs 3))], [.int (xs 2)], (mm_fw1 (mm_zi 64) (.inr (10, mm_fw1f30 (.int 0))) (mm_zi 12288) []))) 1 3000 rfl ?_
        refine mm_xif1 rfl false (mm_lt0 (a := (xs 2).toInt) (b := 0) rfl rfl (by omega)) rfl ?_
        refine mm_xk (S' := (21, [some (.ref 1), some (.int (xs 1)), some (.int (xs 2)), some (.int (xs 3))], [.int 8, .int (xs 2)], (mm_fw1 (mm_zi 64) (.inr (10, mm_fw1f30 (.int 0))) (mm_zi 12288) []))) 3 3000 rfl ?_
        refine mm_xif2 rfl false (mm_ge0 (a := (xs 2).toInt) (b := 8) rfl rfl (by omega)) rfl ?_
        refine mm_xk (S' := (25, [some (.ref 1), some (.int (xs 1)), some (.int (xs 2)), some (.int (xs 3))], [.int (xs 3)], (mm_fw1 (mm_zi 64) (.inr (10, mm_fw1f30 (.int 0))) (mm_zi 12288) []))) 1 3000 rfl ?_
        refine mm_xif1 rfl false (mm_lt0 (a := (xs 3).toInt) (b := 0) rfl rfl (by omega)) rfl ?_
        refine mm_xk (S' := (33, [some (.ref 1), some (.int (xs 1)), some (.int (xs 2)), some (.int (xs 3))], [.int 8, .int (xs 3)], (mm_fw1 (mm_zi 64) (.inr (10, mm_fw1f30 (.int 0))) (mm_zi 12288) []))) 3 3000 rfl ?_
        refine mm_xif2 rfl true (mm_ge1 (a := (xs 3).toInt) (b := 8) rfl rfl (by omega)) rfl ?_
        refine mm_xk (S' := (41, [some (.ref 1), some (.int (xs 1)), some (.int (xs 2)), some (.int (xs 3))], [.int 0], (mm_fw1 (mm_zi 64) (.inr (10, mm_fw1f30 (.int 0))) (mm_zi 12288) []))) 1 3000 rfl ?_
        exact mm_xfn rfl
      refine mm_xk (S' := (29, [some (.ref 0), some (.int (xs 1)), some (.int (xs 2)), some (.int (xs 3)), some (.int (xs 4)), some (.int (xs 5)), some (.int (xs 6)), some (.int (xs 7)), some (.int (xs 8)), none, none, none, none, none, none], [], (mm_fw1 (mm_zi 64) (.inr (10, mm_fw1f30 (.int 0))) (mm_zi 12288) []))) 1 3000 rfl ?_
      exact mm_xfn rfl
    refine mm_xk (S' := (23, [some (.ref 0), some (.int (xs 1)), some (.int (xs 2)), some (.int (xs 3)), some (.int (xs 4)), some (.int (xs 5)), some (.int (xs 6)), some (.int (xs 7)), some (.int (xs 8)), some (.ref 48)], [.int 1], (mm_fw1 (mm_zi 64) (.inr (10, mm_fw1f30 (.int 0))) (mm_zi 12288) [.inr (13, [])]))) 2 3000 rfl ?_
    exact mm_xfn rfl
  refine mm_xk (S' := (301, [some (.ref 1000004), some (.ref 0), some (.ref 30), some (.ref 47), some (.int 0), some (.int 1), none], [.int (xs 8), .int (xs 7), .int (xs 6), .int (xs 5), .int (xs 4), .int (xs 3), .int (xs 2), .int (xs 1), .ref 30], (mm_fw1 (mm_zi 64) (.inr (10, mm_fw1f30 (.int 0))) (mm_zi 12288) [.inr (13, [])]))) 42 3000 rfl ?_
  refine mm_xcl (v := none) (w1 := (mm_fw1 (mm_zi 64) (.inr (10, mm_fw1f30 (.int 1))) (mm_zi 12288) [.inr (13, [])])) rfl ?_ ?_
  · skip
    refine mm_xk (S' := (1, [some (.ref 30), some (.int (xs 1)), some (.int (xs 2)), some (.int (xs 3)), some (.int (xs 4)), some (.int (xs 5)), some (.int (xs 6)), some (.int (xs 7)), some (.int (xs 8)), none, none, none, none, none], [.int (xs 1)], (mm_fw1 (mm_zi 64) (.inr (10, mm_fw1f30 (.int 0))) (mm_zi 12288) [.inr (13, [])]))) 1 3000 rfl ?_
    refine mm_xif1 rfl false (mm_lt0 (a := (xs 1).toInt) (b := 0) rfl rfl (by omega)) rfl ?_
    refine mm_xk (S' := (9, [some (.ref 30), some (.int (xs 1)), some (.int (xs 2)), some (.int (xs 3)), some (.int (xs 4)), some (.int (xs 5)), some (.int (xs 6)), some (.int (xs 7)), some (.int (xs 8)), none, none, none, none, none], [.int 1, .int (xs 1)], (mm_fw1 (mm_zi 64) (.inr (10, mm_fw1f30 (.int 0))) (mm_zi 12288) [.inr (13, [])]))) 3 3000 rfl ?_
    refine mm_xif2 rfl false (mm_ge0 (a := (xs 1).toInt) (b := 1) rfl rfl (by omega)) rfl ?_
    refine mm_xk (S' := (14, [some (.ref 30), some (.int (xs 1)), some (.int (xs 2)), some (.int (xs 3)), some (.int (xs 4)), some (.int (xs 5)), some (.int (xs 6)), some (.int (xs 7)), some (.int (xs 8)), none, none, none, none, none], [.int (xs 4)], (mm_fw1 (mm_zi 64) (.inr (10, mm_fw1f30 (.int 0))) (mm_zi 12288) [.inr (13, [])]))) 1 3000 rfl ?_
    refine mm_xif1 rfl false (mm_le0 (a := (xs 4).toInt) (b := 0) rfl rfl (by omega)) rfl ?_
    refine mm_xk (S' := (19, [some (.ref 30), some (.int (xs 1)), some (.int (xs 2)), some (.int (xs 3)), some (.int (xs 4)), some (.int (xs 5)), some (.int (xs 6)), some (.int (xs 7)), some (.int (xs 8)), none, none, none, none, none], [.int (xs 5)], (mm_fw1 (mm_zi 64) (.inr (10, mm_fw1f30 (.int 0))) (mm_zi 12288) [.inr (13, [])]))) 1 3000 rfl ?_
    refine mm_xif1 rfl true (mm_le1 (a := (xs 5).toInt) (b := 0) rfl rfl (by omega)) rfl ?_
    refine mm_xk (S' := (130, [some (.ref 30), some (.int (xs 1)), some (.int (xs 2)), some (.int (xs 3)), some (.int (xs 4)), some (.int (xs 5)), some (.int (xs 6)), some (.int (xs 7)), some (.int (xs 8)), some (.int 0), none, none, none, none], [], (mm_fw1 (mm_zi 64) (.inr (10, mm_fw1f30 (.int 1))) (mm_zi 12288) [.inr (13, [])]))) 8 3000 rfl ?_
    refine mm_xk (S' := (137, [some (.ref 30), some (.int (xs 1)), some (.int (xs 2)), some (.int (xs 3)), some (.int (xs 4)), some (.int (xs 5)), some (.int (xs 6)), some (.int (xs 7)), some (.int (xs 8)), some (.int 0), none, none, none, none], [], (mm_fw1 (mm_zi 64) (.inr (10, mm_fw1f30 (.int 1))) (mm_zi 12288) [.inr (13, [])]))) 3 3000 rfl ?_
    exact mm_xfn rfl
  refine mm_xk (S' := (1092, [some (.ref 1000004), some (.ref 0), some (.ref 30), some (.ref 47), some (.int 9), some (.int 1), none], [], (mm_fw1 (mm_zi 64) (.inr (10, mm_fw1f30 (.int 1))) (mm_zi 12288) [.inr (13, [])]))) 6 3000 rfl ?_
  refine mm_xk (S' := (1096, [some (.ref 1000004), some (.ref 0), some (.ref 30), some (.ref 47), some (.int 9), some (.int 1), none], [.int 1], (mm_fw1 (mm_zi 64) (.inr (10, mm_fw1f30 (.int 1))) (mm_zi 12288) [.inr (13, [])]))) 8 3000 rfl ?_
  exact mm_xfn rfl
set_option maxRecDepth 100000 in
set_option maxHeartbeats 4000000 in
theorem mm_lf1_7 (xs : Nat → Int32) (l1 : 0 ≤ (xs 1).toInt) (u1 : (xs 1).toInt ≤ 0) (l2 : 0 ≤ (xs 2).toInt) (u2 : (xs 2).toInt ≤ 7) (l3 : 8 ≤ (xs 3).toInt) (u4 : (xs 4).toInt ≤ 0) : mm_Ok xs 192 := by
  refine mm_Ok_of (w' := ((mm_w0.set 30 (.inr (10, (mm_f30.set 0 (.int 1))))) ++ [.inr (13, [])])) (mm_szP 6 (mm_szS 63 mm_sz0 rfl) rfl) rfl rfl ?_
  refine mm_xk (S' := (244, [some (.ref 1000004), some (.ref 0), some (.ref 30), some (.ref 47), some (.int 0), none, none], [.int (xs 8), .int (xs 7), .int (xs 6), .int (xs 5), .int (xs 4), .int (xs 3), .int (xs 2), .int (xs 1), .ref 0], (mm_fw1 (mm_zi 64) (.inr (10, mm_fw1f30 (.int 0))) (mm_zi 12288) []))) 41 3000 rfl ?_
  refine mm_xcl (v := (some (.int 1))) (w1 := (mm_fw1 (mm_zi 64) (.inr (10, mm_fw1f30 (.int 0))) (mm_zi 12288) [.inr (13, [])])) rfl ?_ ?_
  · skip
    refine mm_xk (S' := (14, [some (.ref 0), some (.int (xs 1)), some (.int (xs 2)), some (.int (xs 3)), some (.int (xs 4)), some (.int (xs 5)), some (.int (xs 6)), some (.int (xs 7)), some (.int (xs 8)), none], [.int (xs 8), .int (xs 7), .int (xs 6), .int (xs 5), .int (xs 4), .int (xs 3), .int (xs 2), .int (xs 1), .ref 0], (mm_fw1 (mm_zi 64) (.inr (10, mm_fw1f30 (.int 0))) (mm_zi 12288) []))) 9 3000 rfl ?_
    refine mm_xct (x := 13) (hp := 20) (w1 := (mm_fw1 (mm_zi 64) (.inr (10, mm_fw1f30 (.int 0))) (mm_zi 12288) [.inr (13, [])])) rfl ?_ rfl ?_
    · skip
      refine mm_xk (S' := (7, [some (.ref 0), some (.int (xs 1)), some (.int (xs 2)), some (.int (xs 3)), some (.int (xs 4)), some (.int (xs 5)), some (.int (xs 6)), some (.int (xs 7)), some (.int (xs 8)), none, none, none, none, none, none], [.int (xs 3), .int (xs 2), .int (xs 1), .ref 1], (mm_fw1 (mm_zi 64) (.inr (10, mm_fw1f30 (.int 0))) (mm_zi 12288) []))) 5 3000 rfl ?_
      refine mm_xcl (v := (some (.int 0))) (w1 := (mm_fw1 (mm_zi 64) (.inr (10, mm_fw1f30 (.int 0))) (mm_zi 12288) [])) rfl ?_ ?_
      · skip
        refine mm_xk (S' := (1, [some (.ref 1), some (.int (xs 1)), some (.int (xs 2)), some (.int (xs 3))], [.int (xs 1)], (mm_fw1 (mm_zi 64) (.inr (10, mm_fw1f30 (.int 0))) (mm_zi 12288) []))) 1 3000 rfl ?_
        refine mm_xif1 rfl false (mm_lt0 (a := (xs 1).toInt) (b := 0) rfl rfl (by omega)) rfl ?_
        refine mm_xk (S' := (9, [some (.ref 1), some (.int (xs 1)), some (.int (xs 2)), some (.int (xs 3))], [.int 1, .int (xs 1)], (mm_fw1 (mm_zi 64) (.inr (10, mm_fw1f30 (.int 0))) (mm_zi 12288) []))) 3 3000 rfl ?_
        refine mm_xif2 rfl false (mm_ge0 (a := (xs 1).toInt) (b := 1) rfl rfl (by omega)) rfl ?_
        refine mm_xk (S' := (13, [some (.ref 1), some (.int (xs 1)), some (.int (xs 2)), some (.int (xs 3))], [.int (xs 2)], (mm_fw1 (mm_zi 64) (.inr (10, mm_fw1f30 (.int 0))) (mm_zi 12288) []))) 1 3000 rfl ?_
        refine mm_xif1 rfl false (mm_lt0 (a := (xs 2).toInt) (b := 0) rfl rfl (by omega)) rfl ?_
        refine mm_xk (S' := (21, [some (.ref 1), some (.int (xs 1)), some (.int (xs 2)), some (.int (xs 3))], [.int 8, .int (xs 2)], (mm_fw1 (mm_zi 64) (.inr (10, mm_fw1f30 (.int 0))) (mm_zi 12288) []))) 3 3000 rfl ?_
        refine mm_xif2 rfl false (mm_ge0 (a := (xs 2).toInt) (b := 8) rfl rfl (by omega)) rfl ?_
        refine mm_xk (S' := (25, [some (.ref 1), some (.int (xs 1)), some (.int (xs 2)), some (.int (xs 3))], [.int (xs 3)], (mm_fw1 (mm_zi 64) (.inr (10, mm_fw1f30 (.int 0))) (mm_zi 12288) []))) 1 3000 rfl ?_
        refine mm_xif1 rfl false (mm_lt0 (a := (xs 3).toInt) (b := 0) rfl rfl (by omega)) rfl ?_
        refine mm_xk (S' := (33, [some (.ref 1), some (.int (xs 1)), some (.int (xs 2)), some (.int (xs 3))], [.int 8, .int (xs 3)], (mm_fw1 (mm_zi 64) (.inr (10, mm_fw1f30 (.int 0))) (mm_zi 12288) []))) 3 3000 rfl ?_
        refine mm_xif2 rfl true (mm_ge1 (a := (xs 3).toInt) (b := 8) rfl rfl (by omega)) rfl ?_
        refine mm_xk (S' := (41, [some (.ref 1), some (.int (xs 1)), some (.int (xs 2)), some (.int (xs 3))], [.int 0], (mm_fw1 (mm_zi 64) (.inr (10, mm_fw1f30 (.int 0))) (mm_zi 12288) []))) 1 3000 rfl ?_
        exact mm_xfn rfl
      refine mm_xk (S' := (29, [some (.ref 0), some (.int (xs 1)), some (.int (xs 2)), some (.int (xs 3)), some (.int (xs 4)), some (.int (xs 5)), some (.int (xs 6)), some (.int (xs 7)), some (.int (xs 8)), none, none, none, none, none, none], [], (mm_fw1 (mm_zi 64) (.inr (10, mm_fw1f30 (.int 0))) (mm_zi 12288) []))) 1 3000 rfl ?_
      exact mm_xfn rfl
    refine mm_xk (S' := (23, [some (.ref 0), some (.int (xs 1)), some (.int (xs 2)), some (.int (xs 3)), some (.int (xs 4)), some (.int (xs 5)), some (.int (xs 6)), some (.int (xs 7)), some (.int (xs 8)), some (.ref 48)], [.int 1], (mm_fw1 (mm_zi 64) (.inr (10, mm_fw1f30 (.int 0))) (mm_zi 12288) [.inr (13, [])]))) 2 3000 rfl ?_
    exact mm_xfn rfl
  refine mm_xk (S' := (301, [some (.ref 1000004), some (.ref 0), some (.ref 30), some (.ref 47), some (.int 0), some (.int 1), none], [.int (xs 8), .int (xs 7), .int (xs 6), .int (xs 5), .int (xs 4), .int (xs 3), .int (xs 2), .int (xs 1), .ref 30], (mm_fw1 (mm_zi 64) (.inr (10, mm_fw1f30 (.int 0))) (mm_zi 12288) [.inr (13, [])]))) 42 3000 rfl ?_
  refine mm_xcl (v := none) (w1 := (mm_fw1 (mm_zi 64) (.inr (10, mm_fw1f30 (.int 1))) (mm_zi 12288) [.inr (13, [])])) rfl ?_ ?_
  · skip
    refine mm_xk (S' := (1, [some (.ref 30), some (.int (xs 1)), some (.int (xs 2)), some (.int (xs 3)), some (.int (xs 4)), some (.int (xs 5)), some (.int (xs 6)), some (.int (xs 7)), some (.int (xs 8)), none, none, none, none, none], [.int (xs 1)], (mm_fw1 (mm_zi 64) (.inr (10, mm_fw1f30 (.int 0))) (mm_zi 12288) [.inr (13, [])]))) 1 3000 rfl ?_
    refine mm_xif1 rfl false (mm_lt0 (a := (xs 1).toInt) (b := 0) rfl rfl (by omega)) rfl ?_
    refine mm_xk (S' := (9, [some (.ref 30), some (.int (xs 1)), some (.int (xs 2)), some (.int (xs 3)), some (.int (xs 4)), some (.int (xs 5)), some (.int (xs 6)), some (.int (xs 7)), some (.int (xs 8)), none, none, none, none, none], [.int 1, .int (xs 1)], (mm_fw1 (mm_zi 64) (.inr (10, mm_fw1f30 (.int 0))) (mm_zi 12288) [.inr (13, [])]))) 3 3000 rfl ?_
    refine mm_xif2 rfl false (mm_ge0 (a := (xs 1).toInt) (b := 1) rfl rfl (by omega)) rfl ?_
    refine mm_xk (S' := (14, [some (.ref 30), some (.int (xs 1)), some (.int (xs 2)), some (.int (xs 3)), some (.int (xs 4)), some (.int (xs 5)), some (.int (xs 6)), some (.int (xs 7)), some (.int (xs 8)), none, none, none, none, none], [.int (xs 4)], (mm_fw1 (mm_zi 64) (.inr (10, mm_fw1f30 (.int 0))) (mm_zi 12288) [.inr (13, [])]))) 1 3000 rfl ?_
    refine mm_xif1 rfl true (mm_le1 (a := (xs 4).toInt) (b := 0) rfl rfl (by omega)) rfl ?_
    refine mm_xk (S' := (130, [some (.ref 30), some (.int (xs 1)), some (.int (xs 2)), some (.int (xs 3)), some (.int (xs 4)), some (.int (xs 5)), some (.int (xs 6)), some (.int (xs 7)), some (.int (xs 8)), some (.int 0), none, none, none, none], [], (mm_fw1 (mm_zi 64) (.inr (10, mm_fw1f30 (.int 1))) (mm_zi 12288) [.inr (13, [])]))) 8 3000 rfl ?_
    refine mm_xk (S' := (137, [some (.ref 30), some (.int (xs 1)), some (.int (xs 2)), some (.int (xs 3)), some (.int (xs 4)), some (.int (xs 5)), some (.int (xs 6)), some (.int (xs 7)), some (.int (xs 8)), some (.int 0), none, none, none, none], [], (mm_fw1 (mm_zi 64) (.inr (10, mm_fw1f30 (.int 1))) (mm_zi 12288) [.inr (13, [])]))) 3 3000 rfl ?_
    exact mm_xfn rfl
  refine mm_xk (S' := (1092, [some (.ref 1000004), some (.ref 0), some (.ref 30), some (.ref 47), some (.int 9), some (.int 1), none], [], (mm_fw1 (mm_zi 64) (.inr (10, mm_fw1f30 (.int 1))) (mm_zi 12288) [.inr (13, [])]))) 6 3000 rfl ?_
  refine mm_xk (S' := (1096, [some (.ref 1000004), some (.ref 0), some (.ref 30), some (.ref 47), some (.int 9), some (.int 1), none], [.int 1], (mm_fw1 (mm_zi 64) (.inr (10, mm_fw1f30 (.int 1))) (mm_zi 12288) [.inr (13, [])]))) 8 3000 rfl ?_
  exact mm_xfn rfl
set_option maxRecDepth 100000 in
set_option maxHeartbeats 4000000 in
theorem mm_lf1_8 (xs : Nat → Int32) (l1 : 0 ≤ (xs 1).toInt) (u1 : (xs 1).toInt ≤ 0) (l2 : 0 ≤ (xs 2).toInt) (u2 : (xs 2).toInt ≤ 7) (l3 : 0 ≤ (xs 3).toInt) (u3 : (xs 3).toInt ≤ 7) (l4 : 1 ≤ (xs 4).toInt) (l5 : 1 ≤ (xs 5).toInt) (l6 : 256 ≤ (xs 6).toInt) (hc0 : mm_cmp .gt (xs 4) (8 - xs 2) = false) (hc1 : mm_cmp .gt (xs 5) (8 - xs 3) = false) : mm_Ok xs 192 := by
  refine mm_Ok_of (w' := ((mm_w0.set 30 (.inr (10, (mm_f30.set 0 (.int 2))))) ++ [.inr (11, [])])) (mm_szP 6 (mm_szS 63 mm_sz0 rfl) rfl) rfl rfl ?_
  refine mm_xk (S' := (244, [some (.ref 1000004), some (.ref 0), some (.ref 30), some (.ref 47), some (.int 0), none, none], [.int (xs 8), .int (xs 7), .int (xs 6), .int (xs 5), .int (xs 4), .int (xs 3), .int (xs 2), .int (xs 1), .ref 0], (mm_fw1 (mm_zi 64) (.inr (10, mm_fw1f30 (.int 0))) (mm_zi 12288) []))) 41 3000 rfl ?_
  refine mm_xcl (v := (some (.int 2))) (w1 := (mm_fw1 (mm_zi 64) (.inr (10, mm_fw1f30 (.int 0))) (mm_zi 12288) [.inr (11, [])])) rfl ?_ ?_
  · skip
    refine mm_xk (S' := (14, [some (.ref 0), some (.int (xs 1)), some (.int (xs 2)), some (.int (xs 3)), some (.int (xs 4)), some (.int (xs 5)), some (.int (xs 6)), some (.int (xs 7)), some (.int (xs 8)), none], [.int (xs 8), .int (xs 7), .int (xs 6), .int (xs 5), .int (xs 4), .int (xs 3), .int (xs 2), .int (xs 1), .ref 0], (mm_fw1 (mm_zi 64) (.inr (10, mm_fw1f30 (.int 0))) (mm_zi 12288) []))) 9 3000 rfl ?_
    refine mm_xct (x := 11) (hp := 24) (w1 := (mm_fw1 (mm_zi 64) (.inr (10, mm_fw1f30 (.int 0))) (mm_zi 12288) [.inr (11, [])])) rfl ?_ rfl ?_
    · skip
      refine mm_xk (S' := (7, [some (.ref 0), some (.int (xs 1)), some (.int (xs 2)), some (.int (xs 3)), some (.int (xs 4)), some (.int (xs 5)), some (.int (xs 6)), some (.int (xs 7)), some (.int (xs 8)), none, none, none, none, none, none], [.int (xs 3), .int (xs 2), .int (xs 1), .ref 1], (mm_fw1 (mm_zi 64) (.inr (10, mm_fw1f30 (.int 0))) (mm_zi 12288) []))) 5 3000 rfl ?_
      refine mm_xcl (v := (some (.int 1))) (w1 := (mm_fw1 (mm_zi 64) (.inr (10, mm_fw1f30 (.int 0))) (mm_zi 12288) [])) rfl ?_ ?_
      · skip
        refine mm_xk (S' := (1, [some (.ref 1), some (.int (xs 1)), some (.int (xs 2)), some (.int (xs 3))], [.int (xs 1)], (mm_fw1 (mm_zi 64) (.inr (10, mm_fw1f30 (.int 0))) (mm_zi 12288) []))) 1 3000 rfl ?_
        refine mm_xif1 rfl false (mm_lt0 (a := (xs 1).toInt) (b := 0) rfl rfl (by omega)) rfl ?_
        refine mm_xk (S' := (9, [some (.ref 1), some (.int (xs 1)), some (.int (xs 2)), some (.int (xs 3))], [.int 1, .int (xs 1)], (mm_fw1 (mm_zi 64) (.inr (10, mm_fw1f30 (.int 0))) (mm_zi 12288) []))) 3 3000 rfl ?_
        refine mm_xif2 rfl false (mm_ge0 (a := (xs 1).toInt) (b := 1) rfl rfl (by omega)) rfl ?_
        refine mm_xk (S' := (13, [some (.ref 1), some (.int (xs 1)), some (.int (xs 2)), some (.int (xs 3))], [.int (xs 2)], (mm_fw1 (mm_zi 64) (.inr (10, mm_fw1f30 (.int 0))) (mm_zi 12288) []))) 1 3000 rfl ?_
        refine mm_xif1 rfl false (mm_lt0 (a := (xs 2).toInt) (b := 0) rfl rfl (by omega)) rfl ?_
        refine mm_xk (S' := (21, [some (.ref 1), some (.int (xs 1)), some (.int (xs 2)), some (.int (xs 3))], [.int 8, .int (xs 2)], (mm_fw1 (mm_zi 64) (.inr (10, mm_fw1f30 (.int 0))) (mm_zi 12288) []))) 3 3000 rfl ?_
        refine mm_xif2 rfl false (mm_ge0 (a := (xs 2).toInt) (b := 8) rfl rfl (by omega)) rfl ?_
        refine mm_xk (S' := (25, [some (.ref 1), some (.int (xs 1)), some (.int (xs 2)), some (.int (xs 3))], [.int (xs 3)], (mm_fw1 (mm_zi 64) (.inr (10, mm_fw1f30 (.int 0))) (mm_zi 12288) []))) 1 3000 rfl ?_
        refine mm_xif1 rfl false (mm_lt0 (a := (xs 3).toInt) (b := 0) rfl rfl (by omega)) rfl ?_
        refine mm_xk (S' := (33, [some (.ref 1), some (.int (xs 1)), some (.int (xs 2)), some (.int (xs 3))], [.int 8, .int (xs 3)], (mm_fw1 (mm_zi 64) (.inr (10, mm_fw1f30 (.int 0))) (mm_zi 12288) []))) 3 3000 rfl ?_
        refine mm_xif2 rfl false (mm_ge0 (a := (xs 3).toInt) (b := 8) rfl rfl (by omega)) rfl ?_
        refine mm_xk (S' := (41, [some (.ref 1), some (.int (xs 1)), some (.int (xs 2)), some (.int (xs 3))], [.int 1], (mm_fw1 (mm_zi 64) (.inr (10, mm_fw1f30 (.int 0))) (mm_zi 12288) []))) 2 3000 rfl ?_
        exact mm_xfn rfl
      refine mm_xk (S' := (23, [some (.ref 0), some (.int (xs 1)), some (.int (xs 2)), some (.int (xs 3)), some (.int (xs 4)), some (.int (xs 5)), some (.int (xs 6)), some (.int (xs 7)), some (.int (xs 8)), none, none, none, none, none, none], [.int (xs 5), .int (xs 4), .int (xs 3), .int (xs 2), .ref 1], (mm_fw1 (mm_zi 64) (.inr (10, mm_fw1f30 (.int 0))) (mm_zi 12288) []))) 7 3000 rfl ?_
      refine mm_xcl (v := (some (.int 1))) (w1 := (mm_fw1 (mm_zi 64) (.inr (10, mm_fw1f30 (.int 0))) (mm_zi 12288) [])) rfl ?_ ?_
      · skip
        refine mm_xk (S' := (2, [some (.ref 1), some (.int (xs 2)), some (.int (xs 3)), some (.int (xs 4)), some (.int (xs 5))], [.int 1, .int (xs 4)], (mm_fw1 (mm_zi 64) (.inr (10, mm_fw1f30 (.int 0))) (mm_zi 12288) []))) 2 3000 rfl ?_
        refine mm_xif2 rfl false (mm_lt0 (a := (xs 4).toInt) (b := 1) rfl rfl (by omega)) rfl ?_
        refine mm_xk (S' := (12, [some (.ref 1), some (.int (xs 2)), some (.int (xs 3)), some (.int (xs 4)), some (.int (xs 5))], [.int (8 - xs 2), .int (xs 4)], (mm_fw1 (mm_zi 64) (.inr (10, mm_fw1f30 (.int 0))) (mm_zi 12288) []))) 5 3000 rfl ?_
        refine mm_xif2 rfl false hc0 rfl ?_
        refine mm_xk (S' := (18, [some (.ref 1), some (.int (xs 2)), some (.int (xs 3)), some (.int (xs 4)), some (.int (xs 5))], [.int 1, .int (xs 5)], (mm_fw1 (mm_zi 64) (.inr (10, mm_fw1f30 (.int 0))) (mm_zi 12288) []))) 2 3000 rfl ?_
        refine mm_xif2 rfl false (mm_lt0 (a := (xs 5).toInt) (b := 1) rfl rfl (by omega)) rfl ?_
        refine mm_xk (S' := (29, [some (.ref 1), some (.int (xs 2)), some (.int (xs 3)), some (.int (xs 4)), some (.int (xs 5))], [.int (8 - xs 3), .int (xs 5)], (mm_fw1 (mm_zi 64) (.inr (10, mm_fw1f30 (.int 0))) (mm_zi 12288) []))) 5 3000 rfl ?_
        refine mm_xif2 rfl false hc1 rfl ?_
        refine mm_xk (S' := (37, [some (.ref 1), some (.int (xs 2)), some (.int (xs 3)), some (.int (xs 4)), some (.int (xs 5))], [.int 1], (mm_fw1 (mm_zi 64) (.inr (10, mm_fw1f30 (.int 0))) (mm_zi 12288) []))) 2 3000 rfl ?_
        exact mm_xfn rfl
      refine mm_xk (S' := (48, [some (.ref 0), some (.int (xs 1)), some (.int (xs 2)), some (.int (xs 3)), some (.int (xs 4)), some (.int (xs 5)), some (.int (xs 6)), some (.int (xs 7)), some (.int (xs 8)), some (.int 255), none, none, none, none, none], [.int (xs 6)], (mm_fw1 (mm_zi 64) (.inr (10, mm_fw1f30 (.int 0))) (mm_zi 12288) []))) 6 3000 rfl ?_
      refine mm_xif1 rfl false (mm_lt0 (a := (xs 6).toInt) (b := 0) rfl rfl (by omega)) rfl ?_
      refine mm_xk (S' := (55, [some (.ref 0), some (.int (xs 1)), some (.int (xs 2)), some (.int (xs 3)), some (.int (xs 4)), some (.int (xs 5)), some (.int (xs 6)), some (.int (xs 7)), some (.int (xs 8)), some (.int 255), none, none, none, none, none], [.int 255, .int (xs 6)], (mm_fw1 (mm_zi 64) (.inr (10, mm_fw1f30 (.int 0))) (mm_zi 12288) []))) 2 3000 rfl ?_
      refine mm_xif2 rfl true (mm_gt1 (a := (xs 6).toInt) (b := 255) rfl rfl (by omega)) rfl ?_
      exact mm_xfn rfl
    refine mm_xk (S' := (27, [some (.ref 0), some (.int (xs 1)), some (.int (xs 2)), some (.int (xs 3)), some (.int (xs 4)), some (.int (xs 5)), some (.int (xs 6)), some (.int (xs 7)), some (.int (xs 8)), some (.ref 48)], [.int 2], (mm_fw1 (mm_zi 64) (.inr (10, mm_fw1f30 (.int 0))) (mm_zi 12288) [.inr (11, [])]))) 2 3000 rfl ?_
    exact mm_xfn rfl
  refine mm_xk (S' := (301, [some (.ref 1000004), some (.ref 0), some (.ref 30), some (.ref 47), some (.int 0), some (.int 2), none], [.int (xs 8), .int (xs 7), .int (xs 6), .int (xs 5), .int (xs 4), .int (xs 3), .int (xs 2), .int (xs 1), .ref 30], (mm_fw1 (mm_zi 64) (.inr (10, mm_fw1f30 (.int 0))) (mm_zi 12288) [.inr (11, [])]))) 42 3000 rfl ?_
  refine mm_xcl (v := none) (w1 := (mm_fw1 (mm_zi 64) (.inr (10, mm_fw1f30 (.int 2))) (mm_zi 12288) [.inr (11, [])])) rfl ?_ ?_
  · skip
    refine mm_xk (S' := (1, [some (.ref 30), some (.int (xs 1)), some (.int (xs 2)), some (.int (xs 3)), some (.int (xs 4)), some (.int (xs 5)), some (.int (xs 6)), some (.int (xs 7)), some (.int (xs 8)), none, none, none, none, none], [.int (xs 1)], (mm_fw1 (mm_zi 64) (.inr (10, mm_fw1f30 (.int 0))) (mm_zi 12288) [.inr (11, [])]))) 1 3000 rfl ?_
    refine mm_xif1 rfl false (mm_lt0 (a := (xs 1).toInt) (b := 0) rfl rfl (by omega)) rfl ?_
    refine mm_xk (S' := (9, [some (.ref 30), some (.int (xs 1)), some (.int (xs 2)), some (.int (xs 3)), some (.int (xs 4)), some (.int (xs 5)), some (.int (xs 6)), some (.int (xs 7)), some (.int (xs 8)), none, none, none, none, none], [.int 1, .int (xs 1)], (mm_fw1 (mm_zi 64) (.inr (10, mm_fw1f30 (.int 0))) (mm_zi 12288) [.inr (11, [])]))) 3 3000 rfl ?_
    refine mm_xif2 rfl false (mm_ge0 (a := (xs 1).toInt) (b := 1) rfl rfl (by omega)) rfl ?_
    refine mm_xk (S' := (14, [some (.ref 30), some (.int (xs 1)), some (.int (xs 2)), some (.int (xs 3)), some (.int (xs 4)), some (.int (xs 5)), some (.int (xs 6)), some (.int (xs 7)), some (.int (xs 8)), none, none, none, none, none], [.int (xs 4)], (mm_fw1 (mm_zi 64) (.inr (10, mm_fw1f30 (.int 0))) (mm_zi 12288) [.inr (11, [])]))) 1 3000 rfl ?_
    refine mm_xif1 rfl false (mm_le0 (a := (xs 4).toInt) (b := 0) rfl rfl (by omega)) rfl ?_
    refine mm_xk (S' := (19, [some (.ref 30), some (.int (xs 1)), some (.int (xs 2)), some (.int (xs 3)), some (.int (xs 4)), some (.int (xs 5)), some (.int (xs 6)), some (.int (xs 7)), some (.int (xs 8)), none, none, none, none, none], [.int (xs 5)], (mm_fw1 (mm_zi 64) (.inr (10, mm_fw1f30 (.int 0))) (mm_zi 12288) [.inr (11, [])]))) 1 3000 rfl ?_
    refine mm_xif1 rfl false (mm_le0 (a := (xs 5).toInt) (b := 0) rfl rfl (by omega)) rfl ?_
    refine mm_xk (S' := (23, [some (.ref 30), some (.int (xs 1)), some (.int (xs 2)), some (.int (xs 3)), some (.int (xs 4)), some (.int (xs 5)), some (.int (xs 6)), some (.int (xs 7)), some (.int (xs 8)), none, none, none, none, none], [.int (xs 2)], (mm_fw1 (mm_zi 64) (.inr (10, mm_fw1f30 (.int 0))) (mm_zi 12288) [.inr (11, [])]))) 1 3000 rfl ?_
    refine mm_xif1 rfl false (mm_lt0 (a := (xs 2).toInt) (b := 0) rfl rfl (by omega)) rfl ?_
    refine mm_xk (S' := (27, [some (.ref 30), some (.int (xs 1)), some (.int (xs 2)), some (.int (xs 3)), some (.int (xs 4)), some (.int (xs 5)), some (.int (xs 6)), some (.int (xs 7)), some (.int (xs 8)), none, none, none, none, none], [.int (xs 3)], (mm_fw1 (mm_zi 64) (.inr (10, mm_fw1f30 (.int 0))) (mm_zi 12288) [.inr (11, [])]))) 1 3000 rfl ?_
    refine mm_xif1 rfl false (mm_lt0 (a := (xs 3).toInt) (b := 0) rfl rfl (by omega)) rfl ?_
    refine mm_xk (S' := (35, [some (.ref 30), some (.int (xs 1)), some (.int (xs 2)), some (.int (xs 3)), some (.int (xs 4)), some (.int (xs 5)), some (.int (xs 6)), some (.int (xs 7)), some (.int (xs 8)), none, none, none, none, none], [.int 8, .int (xs 2)], (mm_fw1 (mm_zi 64) (.inr (10, mm_fw1f30 (.int 0))) (mm_zi 12288) [.inr (11, [])]))) 3 3000 rfl ?_
    refine mm_xif2 rfl false (mm_ge0 (a := (xs 2).toInt) (b := 8) rfl rfl (by omega)) rfl ?_
    refine mm_xk (S' := (43, [some (.ref 30), some (.int (xs 1)), some (.int (xs 2)), some (.int (xs 3)), some (.int (xs 4)), some (.int (xs 5)), some (.int (xs 6)), some (.int (xs 7)), some (.int (xs 8)), none, none, none, none, none], [.int 8, .int (xs 3)], (mm_fw1 (mm_zi 64) (.inr (10, mm_fw1f30 (.int 0))) (mm_zi 12288) [.inr (11, [])]))) 3 3000 rfl ?_
    refine mm_xif2 rfl false (mm_ge0 (a := (xs 3).toInt) (b := 8) rfl rfl (by omega)) rfl ?_
    refine mm_xk (S' := (54, [some (.ref 30), some (.int (xs 1)), some (.int (xs 2)), some (.int (xs 3)), some (.int (xs 4)), some (.int (xs 5)), some (.int (xs 6)), some (.int (xs 7)), some (.int (xs 8)), none, none, none, none, none], [.int (8 - xs 2), .int (xs 4)], (mm_fw1 (mm_zi 64) (.inr (10, mm_fw1f30 (.int 0))) (mm_zi 12288) [.inr (11, [])]))) 5 3000 rfl ?_
    refine mm_xif2 rfl false hc0 rfl ?_
    refine mm_xk (S' := (65, [some (.ref 30), some (.int (xs 1)), some (.int (xs 2)), some (.int (xs 3)), some (.int (xs 4)), some (.int (xs 5)), some (.int (xs 6)), some (.int (xs 7)), some (.int (xs 8)), none, none, none, none, none], [.int (8 - xs 3), .int (xs 5)], (mm_fw1 (mm_zi 64) (.inr (10, mm_fw1f30 (.int 0))) (mm_zi 12288) [.inr (11, [])]))) 5 3000 rfl ?_
    refine mm_xif2 rfl false hc1 rfl ?_
    refine mm_xk (S' := (92, [some (.ref 30), some (.int (xs 1)), some (.int (xs 2)), some (.int (xs 3)), some (.int (xs 4)), some (.int (xs 5)), some (.int (xs 6)), some (.int (xs 7)), some (.int (xs 8)), some (.int 1), none, none, none, none], [.int 255, .int 0, .int (xs 6), .ref 30], (mm_fw1 (mm_zi 64) (.inr (10, mm_fw1f30 (.int 0))) (mm_zi 12288) [.inr (11, [])]))) 10 3000 rfl ?_
    refine mm_xcl (v := (some (.int 0))) (w1 := (mm_fw1 (mm_zi 64) (.inr (10, mm_fw1f30 (.int 0))) (mm_zi 12288) [.inr (11, [])])) rfl ?_ ?_
    · skip
      refine mm_xk (S' := (2, [some (.int (xs 6)), some (.int 0), some (.int 255)], [.int 0, .int (xs 6)], (mm_fw1 (mm_zi 64) (.inr (10, mm_fw1f30 (.int 0))) (mm_zi 12288) [.inr (11, [])]))) 2 3000 rfl ?_
      refine mm_xif2 rfl false (mm_lt0 (a := (xs 6).toInt) (b := 0) rfl rfl (by omega)) rfl ?_
      refine mm_xk (S' := (7, [some (.int (xs 6)), some (.int 0), some (.int 255)], [.int 255, .int (xs 6)], (mm_fw1 (mm_zi 64) (.inr (10, mm_fw1f30 (.int 0))) (mm_zi 12288) [.inr (11, [])]))) 2 3000 rfl ?_
      refine mm_xif2 rfl true (mm_gt1 (a := (xs 6).toInt) (b := 255) rfl rfl (by omega)) rfl ?_
      refine mm_xk (S' := (15, [some (.int (xs 6)), some (.int 0), some (.int 255)], [.int 0], (mm_fw1 (mm_zi 64) (.inr (10, mm_fw1f30 (.int 0))) (mm_zi 12288) [.inr (11, [])]))) 1 3000 rfl ?_
      exact mm_xfn rfl
    refine mm_xk (S' := (130, [some (.ref 30), some (.int (xs 1)), some (.int (xs 2)), some (.int (xs 3)), some (.int (xs 4)), some (.int (xs 5)), some (.int (xs 6)), some (.int (xs 7)), some (.int (xs 8)), some (.int 1), none, none, none, none], [], (mm_fw1 (mm_zi 64) (.inr (10, mm_fw1f30 (.int 2))) (mm_zi 12288) [.inr (11, [])]))) 3 3000 rfl ?_
    refine mm_xk (S' := (137, [some (.ref 30), some (.int (xs 1)), some (.int (xs 2)), some (.int (xs 3)), some (.int (xs 4)), some (.int (xs 5)), some (.int (xs 6)), some (.int (xs 7)), some (.int (xs 8)), some (.int 1), none, none, none, none], [], (mm_fw1 (mm_zi 64) (.inr (10, mm_fw1f30 (.int 2))) (mm_zi 12288) [.inr (11, [])]))) 3 3000 rfl ?_
    exact mm_xfn rfl
  refine mm_xk (S' := (1092, [some (.ref 1000004), some (.ref 0), some (.ref 30), some (.ref 47), some (.int 9), some (.int 2), none], [], (mm_fw1 (mm_zi 64) (.inr (10, mm_fw1f30 (.int 2))) (mm_zi 12288) [.inr (11, [])]))) 6 3000 rfl ?_
  refine mm_xk (S' := (1096, [some (.ref 1000004), some (.ref 0), some (.ref 30), some (.ref 47), some (.int 9), some (.int 2), none], [.int 1], (mm_fw1 (mm_zi 64) (.inr (10, mm_fw1f30 (.int 2))) (mm_zi 12288) [.inr (11, [])]))) 8 3000 rfl ?_
  exact mm_xfn rfl
