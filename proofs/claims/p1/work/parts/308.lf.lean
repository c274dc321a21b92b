def mm_fw8f6 (x1 : Value) : List Value := [.ref 7, x1]
def mm_fw8f30 (x0 x14 : Value) : List Value := [x0, .int 8, .int 8, .int 1, .int 8, .ref 31, .ref 32, .int 0, .int 0, .int 0, .int 0, .int 0, .ref 33, .ref 34, x14, .ref 35, .int 0, .int 0, .int 0, .int 0, .int 0, .int 0, .int 0, .int 0, .int 0, .int 0, .int 0, .ref 36, .ref 37, .ref 38, .ref 39, .ref 40, .ref 41, .ref 42, .ref 43, .int 0, .int 0, .int 0, .int 0, .int 0, .ref 44, .int 0, .int 0, .int 0, .int 0, .int 0, .int 0, .int 0, .int 0, .int 0, .int 0, .int (-1), .int 0, .int 0, .int 0, .ref 45, .ref 46, .int 0, .int 0, .int 0, .int 0, .int 0, .int 0]
def mm_fw8 (x6 x30 : mm_E) (t : mm_W) : mm_W := .inr (0, mm_f0) :: .inr (2, mm_f1) :: mm_zi 0 :: mm_zi 5 :: .inr (1, mm_f4) :: mm_zb 64 :: x6 :: mm_zb 64 :: .inr (3, mm_f8) :: .inr (4, mm_f9) :: mm_zi 1468 :: mm_zi 1468 :: .inr (5, mm_f12) :: mm_zi 66 :: mm_zi 66 :: mm_zi 0 :: .inr (7, mm_f16) :: .inr (9, mm_f17) :: mm_zi 5 :: mm_zi 3 :: .inr (8, mm_f20) :: .inr (6, mm_f21) :: mm_zi 66 :: mm_zi 66 :: mm_zi 0 :: .inr (2, mm_f25) :: mm_zi 0 :: .inr (2, mm_f27) :: mm_zi 0 :: mm_zi 64 :: x30 :: mm_zi 12288 :: mm_zi 5 :: mm_zi 12288 :: mm_zb 32768 :: mm_zb 65536 :: mm_zi 367 :: mm_zi 367 :: mm_zi 367 :: mm_zi 367 :: mm_zi 367 :: mm_zi 367 :: mm_zi 367 :: mm_zi 367 :: mm_zi 12288 :: mm_zi 3 :: mm_zi 5 :: .inl (.long, 1, .inr (.inl (fun _ => 0))) :: t

set_option maxRecDepth 100000 in
set_option maxHeartbeats 4000000 in
theorem mm_lf8_0 (xs : Nat → Int32) (l1 : 1 ≤ (xs 1).toInt) : mm_Ok xs 711 := by
  refine mm_Ok_of (w' := ((mm_w0.set 30 (.inr (10, (mm_f30.set 0 (.int 1))))) ++ [.inr (11, [])])) (mm_szP 6 (mm_szS 63 mm_sz0 rfl) rfl) rfl rfl ?_
  refine mm_xk (S' := (718, [some (.ref 1000004), some (.ref 0), some (.ref 30), some (.ref 47), some (.int 0), none, none], [.int (xs 1), .ref 0], (mm_fw8 (.inr (1, mm_fw8f6 (.int 0))) (.inr (10, mm_fw8f30 (.int 0) (.int 0))) []))) 6 3000 rfl ?_
  refine mm_xcl (v := (some (.int 1))) (w1 := (mm_fw8 (.inr (1, mm_fw8f6 (.int 0))) (.inr (10, mm_fw8f30 (.int 0) (.int 0))) [.inr (11, [])])) rfl ?_ ?_
  · skip
    refine mm_xk (S' := (2, [some (.ref 0), some (.int (xs 1)), none], [.int (xs 1), .ref 0], (mm_fw8 (.inr (1, mm_fw8f6 (.int 0))) (.inr (10, mm_fw8f30 (.int 0) (.int 0))) []))) 2 3000 rfl ?_
    refine mm_xct (x := 11) (hp := 8) (w1 := (mm_fw8 (.inr (1, mm_fw8f6 (.int 0))) (.inr (10, mm_fw8f30 (.int 0) (.int 0))) [.inr (11, [])])) rfl ?_ rfl ?_
    · skip
      refine mm_xk (S' := (1, [some (.ref 0), some (.int (xs 1))], [.int (xs 1)], (mm_fw8 (.inr (1, mm_fw8f6 (.int 0))) (.inr (10, mm_fw8f30 (.int 0) (.int 0))) []))) 1 3000 rfl ?_
      refine mm_xif1 rfl false (mm_lt0 (a := (xs 1).toInt) (b := 0) rfl rfl (by omega)) rfl ?_
      refine mm_xk (S' := (12, [some (.ref 0), some (.int (xs 1))], [.int 0, .int (xs 1)], (mm_fw8 (.inr (1, mm_fw8f6 (.int 0))) (.inr (10, mm_fw8f30 (.int 0) (.int 0))) []))) 4 3000 rfl ?_
      refine mm_xif2 rfl false (mm_le0 (a := (xs 1).toInt) (b := 0) rfl rfl (by omega)) rfl ?_
      exact mm_xfn rfl
    refine mm_xk (S' := (10, [some (.ref 0), some (.int (xs 1)), some (.ref 48)], [.int 1], (mm_fw8 (.inr (1, mm_fw8f6 (.int 0))) (.inr (10, mm_fw8f30 (.int 0) (.int 0))) [.inr (11, [])]))) 2 3000 rfl ?_
    exact mm_xfn rfl
  refine mm_xk (S' := (730, [some (.ref 1000004), some (.ref 0), some (.ref 30), some (.ref 47), some (.int 0), some (.int 1), none], [.int (xs 1), .ref 30], (mm_fw8 (.inr (1, mm_fw8f6 (.int 0))) (.inr (10, mm_fw8f30 (.int 0) (.int 0))) [.inr (11, [])]))) 7 3000 rfl ?_
  refine mm_xcl (v := none) (w1 := (mm_fw8 (.inr (1, mm_fw8f6 (.int 0))) (.inr (10, mm_fw8f30 (.int 1) (.int 0))) [.inr (11, [])])) rfl ?_ ?_
  · skip
    refine mm_xk (S' := (2, [some (.ref 30), some (.int (xs 1))], [.int (xs 1), .ref 30], (mm_fw8 (.inr (1, mm_fw8f6 (.int 0))) (.inr (10, mm_fw8f30 (.int 0) (.int 0))) [.inr (11, [])]))) 2 3000 rfl ?_
    refine mm_xif1 rfl false (mm_lt0 (a := (xs 1).toInt) (b := 0) rfl rfl (by omega)) rfl ?_
    refine mm_xk (S' := (10, [some (.ref 30), some (.int (xs 1))], [.int 0, .int (xs 1), .ref 30], (mm_fw8 (.inr (1, mm_fw8f6 (.int 0))) (.inr (10, mm_fw8f30 (.int 0) (.int 0))) [.inr (11, [])]))) 3 3000 rfl ?_
    refine mm_xif2 rfl false (mm_le0 (a := (xs 1).toInt) (b := 0) rfl rfl (by omega)) rfl ?_
    refine mm_xk (S' := (21, [some (.ref 30), some (.int (xs 1))], [], (mm_fw8 (.inr (1, mm_fw8f6 (.int 0))) (.inr (10, mm_fw8f30 (.int 1) (.int 0))) [.inr (11, [])]))) 3 3000 rfl ?_
    refine mm_xk (S' := (33, [some (.ref 30), some (.int (xs 1))], [], (mm_fw8 (.inr (1, mm_fw8f6 (.int 0))) (.inr (10, mm_fw8f30 (.int 1) (.int 0))) [.inr (11, [])]))) 3 3000 rfl ?_
    exact mm_xfn rfl
  refine mm_xk (S' := (1092, [some (.ref 1000004), some (.ref 0), some (.ref 30), some (.ref 47), some (.int 9), some (.int 1), none], [], (mm_fw8 (.inr (1, mm_fw8f6 (.int 0))) (.inr (10, mm_fw8f30 (.int 1) (.int 0))) [.inr (11, [])]))) 6 3000 rfl ?_
  refine mm_xk (S' := (1096, [some (.ref 1000004), some (.ref 0), some (.ref 30), some (.ref 47), some (.int 9), some (.int 1), none], [.int 1], (mm_fw8 (.inr (1, mm_fw8f6 (.int 0))) (.inr (10, mm_fw8f30 (.int 1) (.int 0))) [.inr (11, [])]))) 8 3000 rfl ?_
  exact mm_xfn rfl
set_option maxRecDepth 100000 in
set_option maxHeartbeats 4000000 in
theorem mm_lf8_1 (xs : Nat → Int32) (l1 : 0 ≤ (xs 1).toInt) (u1 : (xs 1).toInt ≤ 0) : mm_Ok xs 711 := by
  refine mm_Ok_of (w' := ((mm_w0.set 6 (.inr (1, (mm_f6.set 1 (.int (xs 1)))))).set 30 (.inr (10, (mm_f30.set 14 (.int (xs 1))))))) (mm_szS 63 (mm_szS 2 mm_sz0 rfl) rfl) rfl rfl ?_
  refine mm_xk (S' := (718, [some (.ref 1000004), some (.ref 0), some (.ref 30), some (.ref 47), some (.int 0), none, none], [.int (xs 1), .ref 0], (mm_fw8 (.inr (1, mm_fw8f6 (.int 0))) (.inr (10, mm_fw8f30 (.int 0) (.int 0))) []))) 6 3000 rfl ?_
  refine mm_xcl (v := (some (.int 0))) (w1 := (mm_fw8 (.inr (1, mm_fw8f6 (.int (xs 1)))) (.inr (10, mm_fw8f30 (.int 0) (.int 0))) [])) rfl ?_ ?_
  · skip
    refine mm_xk (S' := (2, [some (.ref 0), some (.int (xs 1)), none], [.int (xs 1), .ref 0], (mm_fw8 (.inr (1, mm_fw8f6 (.int 0))) (.inr (10, mm_fw8f30 (.int 0) (.int 0))) []))) 2 3000 rfl ?_
    refine mm_xcl (v := none) (w1 := (mm_fw8 (.inr (1, mm_fw8f6 (.int (xs 1)))) (.inr (10, mm_fw8f30 (.int 0) (.int 0))) [])) rfl ?_ ?_
    · skip
      refine mm_xk (S' := (1, [some (.ref 0), some (.int (xs 1))], [.int (xs 1)], (mm_fw8 (.inr (1, mm_fw8f6 (.int 0))) (.inr (10, mm_fw8f30 (.int 0) (.int 0))) []))) 1 3000 rfl ?_
      refine mm_xif1 rfl false (mm_lt0 (a := (xs 1).toInt) (b := 0) rfl rfl (by omega)) rfl ?_
      refine mm_xk (S' := (12, [some (.ref 0), some (.int (xs 1))], [.int 0, .int (xs 1)], (mm_fw8 (.inr (1, mm_fw8f6 (.int 0))) (.inr (10, mm_fw8f30 (.int 0) (.int 0))) []))) 4 3000 rfl ?_
      refine mm_xif2 rfl true (mm_le1 (a := (xs 1).toInt) (b := 0) rfl rfl (by omega)) rfl ?_
      refine mm_xk (S' := (31, [some (.ref 0), some (.int (xs 1))], [], (mm_fw8 (.inr (1, mm_fw8f6 (.int (xs 1)))) (.inr (10, mm_fw8f30 (.int 0) (.int 0))) []))) 4 3000 rfl ?_
      exact mm_xfn rfl
    refine mm_xk (S' := (12, [some (.ref 0), some (.int (xs 1)), none], [.int 0], (mm_fw8 (.inr (1, mm_fw8f6 (.int (xs 1)))) (.inr (10, mm_fw8f30 (.int 0) (.int 0))) []))) 2 3000 rfl ?_
    exact mm_xfn rfl
  refine mm_xk (S' := (730, [some (.ref 1000004), some (.ref 0), some (.ref 30), some (.ref 47), some (.int 0), some (.int 0), none], [.int (xs 1), .ref 30], (mm_fw8 (.inr (1, mm_fw8f6 (.int (xs 1)))) (.inr (10, mm_fw8f30 (.int 0) (.int 0))) []))) 7 3000 rfl ?_
  refine mm_xcl (v := none) (w1 := (mm_fw8 (.inr (1, mm_fw8f6 (.int (xs 1)))) (.inr (10, mm_fw8f30 (.int 0) (.int (xs 1)))) [])) rfl ?_ ?_
  · skip
    refine mm_xk (S' := (2, [some (.ref 30), some (.int (xs 1))], [.int (xs 1), .ref 30], (mm_fw8 (.inr (1, mm_fw8f6 (.int (xs 1)))) (.inr (10, mm_fw8f30 (.int 0) (.int 0))) []))) 2 3000 rfl ?_
    refine mm_xif1 rfl false (mm_lt0 (a := (xs 1).toInt) (b := 0) rfl rfl (by omega)) rfl ?_
    refine mm_xk (S' := (10, [some (.ref 30), some (.int (xs 1))], [.int 0, .int (xs 1), .ref 30], (mm_fw8 (.inr (1, mm_fw8f6 (.int (xs 1)))) (.inr (10, mm_fw8f30 (.int 0) (.int 0))) []))) 3 3000 rfl ?_
    refine mm_xif2 rfl true (mm_le1 (a := (xs 1).toInt) (b := 0) rfl rfl (by omega)) rfl ?_
    refine mm_xk (S' := (21, [some (.ref 30), some (.int (xs 1))], [], (mm_fw8 (.inr (1, mm_fw8f6 (.int (xs 1)))) (.inr (10, mm_fw8f30 (.int 0) (.int 0))) []))) 2 3000 rfl ?_
    refine mm_xk (S' := (33, [some (.ref 30), some (.int (xs 1))], [], (mm_fw8 (.inr (1, mm_fw8f6 (.int (xs 1)))) (.inr (10, mm_fw8f30 (.int 0) (.int (xs 1)))) []))) 6 3000 rfl ?_
    exact mm_xfn rfl
  refine mm_xk (S' := (1092, [some (.ref 1000004), some (.ref 0), some (.ref 30), some (.ref 47), some (.int 9), some (.int 0), none], [], (mm_fw8 (.inr (1, mm_fw8f6 (.int (xs 1)))) (.inr (10, mm_fw8f30 (.int 0) (.int (xs 1)))) []))) 6 3000 rfl ?_
  refine mm_xk (S' := (1096, [some (.ref 1000004), some (.ref 0), some (.ref 30), some (.ref 47), some (.int 9), some (.int 0), none], [.int 1], (mm_fw8 (.inr (1, mm_fw8f6 (.int (xs 1)))) (.inr (10, mm_fw8f30 (.int 0) (.int (xs 1)))) []))) 8 3000 rfl ?_
  exact mm_xfn rfl
set_option maxRecDepth 100000 in
set_option maxHeartbeats 4000000 in
theorem mm_lf8_2 (xs : Nat → Int32) (u1 : (xs 1).toInt ≤ -1) : mm_Ok xs 711 := by
  refine mm_Ok_of (w' := ((mm_w0.set 30 (.inr (10, (mm_f30.set 0 (.int 1))))) ++ [.inr (11, [])])) (mm_szP 6 (mm_szS 63 mm_sz0 rfl) rfl) rfl rfl ?_
  refine mm_xk (S' := (718, [some (.ref 1000004), some (.ref 0), some (.ref 30), some (.ref 47), some (.int 0), none, none], [.int (xs 1), .ref 0], (mm_fw8 (.inr (1, mm_fw8f6 (.int 0))) (.inr (10, mm_fw8f30 (.int 0) (.int 0))) []))) 6 3000 rfl ?_
  refine mm_xcl (v := (some (.int 1))) (w1 := (mm_fw8 (.inr (1, mm_fw8f6 (.int 0))) (.inr (10, mm_fw8f30 (.int 0) (.int 0))) [.inr (11, [])])) rfl ?_ ?_
  · skip
    refine mm_xk (S' := (2, [some (.ref 0), some (.int (xs 1)), none], [.int (xs 1), .ref 0], (mm_fw8 (.inr (1, mm_fw8f6 (.int 0))) (.inr (10, mm_fw8f30 (.int 0) (.int 0))) []))) 2 3000 rfl ?_
    refine mm_xct (x := 11) (hp := 8) (w1 := (mm_fw8 (.inr (1, mm_fw8f6 (.int 0))) (.inr (10, mm_fw8f30 (.int 0) (.int 0))) [.inr (11, [])])) rfl ?_ rfl ?_
    · skip
      refine mm_xk (S' := (1, [some (.ref 0), some (.int (xs 1))], [.int (xs 1)], (mm_fw8 (.inr (1, mm_fw8f6 (.int 0))) (.inr (10, mm_fw8f30 (.int 0) (.int 0))) []))) 1 3000 rfl ?_
      refine mm_xif1 rfl true (mm_lt1 (a := (xs 1).toInt) (b := 0) rfl rfl (by omega)) rfl ?_
      exact mm_xfn rfl
    refine mm_xk (S' := (10, [some (.ref 0), some (.int (xs 1)), some (.ref 48)], [.int 1], (mm_fw8 (.inr (1, mm_fw8f6 (.int 0))) (.inr (10, mm_fw8f30 (.int 0) (.int 0))) [.inr (11, [])]))) 2 3000 rfl ?_
    exact mm_xfn rfl
  refine mm_xk (S' := (730, [some (.ref 1000004), some (.ref 0), some (.ref 30), some (.ref 47), some (.int 0), some (.int 1), none], [.int (xs 1), .ref 30], (mm_fw8 (.inr (1, mm_fw8f6 (.int 0))) (.inr (10, mm_fw8f30 (.int 0) (.int 0))) [.inr (11, [])]))) 7 3000 rfl ?_
  refine mm_xcl (v := none) (w1 := (mm_fw8 (.inr (1, mm_fw8f6 (.int 0))) (.inr (10, mm_fw8f30 (.int 1) (.int 0))) [.inr (11, [])])) rfl ?_ ?_
  · skip
    refine mm_xk (S' := (2, [some (.ref 30), some (.int (xs 1))], [.int (xs 1), .ref 30], (mm_fw8 (.inr (1, mm_fw8f6 (.int 0))) (.inr (10, mm_fw8f30 (.int 0) (.int 0))) [.inr (11, [])]))) 2 3000 rfl ?_
    refine mm_xif1 rfl true (mm_lt1 (a := (xs 1).toInt) (b := 0) rfl rfl (by omega)) rfl ?_
    refine mm_xk (S' := (21, [some (.ref 30), some (.int (xs 1))], [], (mm_fw8 (.inr (1, mm_fw8f6 (.int 0))) (.inr (10, mm_fw8f30 (.int 1) (.int 0))) [.inr (11, [])]))) 3 3000 rfl ?_
    refine mm_xk (S' := (33, [some (.ref 30), some (.int (xs 1))], [], (mm_fw8 (.inr (1, mm_fw8f6 (.int 0))) (.inr (10, mm_fw8f30 (.int 1) (.int 0))) [.inr (11, [])]))) 3 3000 rfl ?_
    exact mm_xfn rfl
  refine mm_xk (S' := (1092, [some (.ref 1000004), some (.ref 0), some (.ref 30), some (.ref 47), some (.int 9), some (.int 1), none], [], (mm_fw8 (.inr (1, mm_fw8f6 (.int 0))) (.inr (10, mm_fw8f30 (.int 1) (.int 0))) [.inr (11, [])]))) 6 3000 rfl ?_
  refine mm_xk (S' := (1096, [some (.ref 1000004), some (.ref 0), some (.ref 30), some (.ref 47), some (.int 9), some (.int 1), none], [.int 1], (mm_fw8 (.inr (1, mm_fw8f6 (.int 0))) (.inr (10, mm_fw8f30 (.int 1) (.int 0))) [.inr (11, [])]))) 8 3000 rfl ?_
  exact mm_xfn rfl
