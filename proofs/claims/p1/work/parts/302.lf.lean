def mm_fw2f30 (x0 : Value) : List Value := [x0, .int 8, .int 8, .int 1, .int 8, .ref 31, .ref 32, .int 0, .int 0, .int 0, .int 0, .int 0, .ref 33, .ref 34, .int 0, .ref 35, .int 0, .int 0, .int 0, .int 0, .int 0, .int 0, .int 0, .int 0, .int 0, .int 0, .int 0, .ref 36, .ref 37, .ref 38, .ref 39, .ref 40, .ref 41, .ref 42, .ref 43, .int 0, .int 0, .int 0, .int 0, .int 0, .ref 44, .int 0, .int 0, .int 0, .int 0, .int 0, .int 0, .int 0, .int 0, .int 0, .int 0, .int (-1), .int 0, .int 0, .int 0, .ref 45, .ref 46, .int 0, .int 0, .int 0, .int 0, .int 0, .int 0]
def mm_fw2 (x30 x47 : mm_E) (t : mm_W) : mm_W := .inr (0, mm_f0) :: .inr (2, mm_f1) :: mm_zi 0 :: mm_zi 5 :: .inr (1, mm_f4) :: mm_zb 64 :: .inr (1, mm_f6) :: mm_zb 64 :: .inr (3, mm_f8) :: .inr (4, mm_f9) :: mm_zi 1468 :: mm_zi 1468 :: .inr (5, mm_f12) :: mm_zi 66 :: mm_zi 66 :: mm_zi 0 :: .inr (7, mm_f16) :: .inr (9, mm_f17) :: mm_zi 5 :: mm_zi 3 :: .inr (8, mm_f20) :: .inr (6, mm_f21) :: mm_zi 66 :: mm_zi 66 :: mm_zi 0 :: .inr (2, mm_f25) :: mm_zi 0 :: .inr (2, mm_f27) :: mm_zi 0 :: mm_zi 64 :: x30 :: mm_zi 12288 :: mm_zi 5 :: mm_zi 12288 :: mm_zb 32768 :: mm_zb 65536 :: mm_zi 367 :: mm_zi 367 :: mm_zi 367 :: mm_zi 367 :: mm_zi 367 :: mm_zi 367 :: mm_zi 367 :: mm_zi 367 :: mm_zi 12288 :: mm_zi 3 :: mm_zi 5 :: x47 :: t

set_option maxRecDepth 100000 in
set_option maxHeartbeats 4000000 in
theorem mm_lf2_0 (xs : Nat → Int32) (l1 : 1 ≤ (xs 1).toInt) : mm_Ok xs 318 := by
  refine mm_Ok_of (w' := ((mm_w0.set 30 (.inr (10, (mm_f30.set 0 (.int 1))))) ++ [.inr (13, [])])) (mm_szP 6 (mm_szS 63 mm_sz0 rfl) rfl) rfl rfl ?_
  refine mm_xk (S' := (338, [some (.ref 1000004), some (.ref 0), some (.ref 30), some (.ref 47), some (.int 0), none, none], [.ref 47, .int (xs 3), .int (xs 2), .int (xs 1), .ref 0], (mm_fw2 (.inr (10, mm_fw2f30 (.int 0))) (.inl (.long, 1, .inr (.inl (fun _ => 0)))) []))) 17 3000 rfl ?_
  refine mm_xcl (v := (some (.int 1))) (w1 := (mm_fw2 (.inr (10, mm_fw2f30 (.int 0))) (.inl (.long, 1, .inr (.inl (fun _ => 0)))) [.inr (13, [])])) rfl ?_ ?_
  · skip
    refine mm_xk (S' := (7, [some (.ref 0), some (.int (xs 1)), some (.int (xs 2)), some (.int (xs 3)), some (.ref 47), none], [.int (xs 3), .int (xs 2), .int (xs 1), .ref 0, .int 0, .ref 47], (mm_fw2 (.inr (10, mm_fw2f30 (.int 0))) (.inl (.long, 1, .inr (.inl (fun _ => 0)))) []))) 6 3000 rfl ?_
    refine mm_xct (x := 13) (hp := 15) (w1 := (mm_fw2 (.inr (10, mm_fw2f30 (.int 0))) (.inl (.long, 1, .inr (.inl (fun _ => 0)))) [.inr (13, [])])) rfl ?_ rfl ?_
    · skip
      refine mm_xk (S' := (7, [some (.ref 0), some (.int (xs 1)), some (.int (xs 2)), some (.int (xs 3))], [.int (xs 3), .int (xs 2), .int (xs 1), .ref 1], (mm_fw2 (.inr (10, mm_fw2f30 (.int 0))) (.inl (.long, 1, .inr (.inl (fun _ => 0)))) []))) 5 3000 rfl ?_
      refine mm_xcl (v := (some (.int 0))) (w1 := (mm_fw2 (.inr (10, mm_fw2f30 (.int 0))) (.inl (.long, 1, .inr (.inl (fun _ => 0)))) [])) rfl ?_ ?_
      · skip
        refine mm_xk (S' := (1, [some (.ref 1), some (.int (xs 1)), some (.int (xs 2)), some (.int (xs 3))], [.int (xs 1)], (mm_fw2 (.inr (10, mm_fw2f30 (.int 0))) (.inl (.long, 1, .inr (.inl (fun _ => 0)))) []))) 1 3000 rfl ?_
        refine mm_xif1 rfl false (mm_lt0 (a := (xs 1).toInt) (b := 0) rfl rfl (by omega)) rfl ?_
        refine mm_xk (S' := (9, [some (.ref 1), some (.int (xs 1)), some (.int (xs 2)), some (.int (xs 3))], [.int 1, .int (xs 1)], (mm_fw2 (.inr (10, mm_fw2f30 (.int 0))) (.inl (.long, 1, .inr (.inl (fun _ => 0)))) []))) 3 3000 rfl ?_
        refine mm_xif2 rfl true (mm_ge1 (a := (xs 1).toInt) (b := 1) rfl rfl (by omega)) rfl ?_
        refine mm_xk (S' := (41, [some (.ref 1), some (.int (xs 1)), some (.int (xs 2)), some (.int (xs 3))], [.int 0], (mm_fw2 (.inr (10, mm_fw2f30 (.int 0))) (.inl (.long, 1, .inr (.inl (fun _ => 0)))) []))) 1 3000 rfl ?_
        exact mm_xfn rfl
      refine mm_xk (S' := (13, [some (.ref 0), some (.int (xs 1)), some (.int (xs 2)), some (.int (xs 3))], [], (mm_fw2 (.inr (10, mm_fw2f30 (.int 0))) (.inl (.long, 1, .inr (.inl (fun _ => 0)))) []))) 1 3000 rfl ?_
      exact mm_xfn rfl
    refine mm_xk (S' := (18, [some (.ref 0), some (.int (xs 1)), some (.int (xs 2)), some (.int (xs 3)), some (.ref 47), some (.ref 48)], [.int 1], (mm_fw2 (.inr (10, mm_fw2f30 (.int 0))) (.inl (.long, 1, .inr (.inl (fun _ => 0)))) [.inr (13, [])]))) 2 3000 rfl ?_
    exact mm_xfn rfl
  refine mm_xk (S' := (362, [some (.ref 1000004), some (.ref 0), some (.ref 30), some (.ref 47), some (.int 0), some (.int 1), none], [.int (xs 3), .int (xs 2), .int (xs 1), .ref 30], (mm_fw2 (.inr (10, mm_fw2f30 (.int 0))) (.inl (.long, 1, .inr (.inl (fun _ => 0)))) [.inr (13, [])]))) 17 3000 rfl ?_
  refine mm_xcl (v := (some (.int 0))) (w1 := (mm_fw2 (.inr (10, mm_fw2f30 (.int 1))) (.inl (.long, 1, .inr (.inl (fun _ => 0)))) [.inr (13, [])])) rfl ?_ ?_
  · skip
    refine mm_xk (S' := (2, [some (.ref 30), some (.int (xs 1)), some (.int (xs 2)), some (.int (xs 3))], [.int (xs 1), .ref 30], (mm_fw2 (.inr (10, mm_fw2f30 (.int 0))) (.inl (.long, 1, .inr (.inl (fun _ => 0)))) [.inr (13, [])]))) 2 3000 rfl ?_
    refine mm_xif1 rfl false (mm_lt0 (a := (xs 1).toInt) (b := 0) rfl rfl (by omega)) rfl ?_
    refine mm_xk (S' := (10, [some (.ref 30), some (.int (xs 1)), some (.int (xs 2)), some (.int (xs 3))], [.int 1, .int (xs 1), .ref 30], (mm_fw2 (.inr (10, mm_fw2f30 (.int 0))) (.inl (.long, 1, .inr (.inl (fun _ => 0)))) [.inr (13, [])]))) 3 3000 rfl ?_
    refine mm_xif2 rfl true (mm_ge1 (a := (xs 1).toInt) (b := 1) rfl rfl (by omega)) rfl ?_
    refine mm_xk (S' := (45, [some (.ref 30), some (.int (xs 1)), some (.int (xs 2)), some (.int (xs 3))], [], (mm_fw2 (.inr (10, mm_fw2f30 (.int 1))) (.inl (.long, 1, .inr (.inl (fun _ => 0)))) [.inr (13, [])]))) 2 3000 rfl ?_
    refine mm_xk (S' := (73, [some (.ref 30), some (.int (xs 1)), some (.int (xs 2)), some (.int (xs 3))], [.int 0], (mm_fw2 (.inr (10, mm_fw2f30 (.int 1))) (.inl (.long, 1, .inr (.inl (fun _ => 0)))) [.inr (13, [])]))) 5 3000 rfl ?_
    exact mm_xfn rfl
  refine mm_xk (S' := (1092, [some (.ref 1000004), some (.ref 0), some (.ref 30), some (.ref 47), some (.int 9), some (.int 1), some (.int 0)], [], (mm_fw2 (.inr (10, mm_fw2f30 (.int 1))) (.inl (.long, 1, .inr (.inl (fun _ => 0)))) [.inr (13, [])]))) 9 3000 rfl ?_
  refine mm_xk (S' := (1096, [some (.ref 1000004), some (.ref 0), some (.ref 30), some (.ref 47), some (.int 9), some (.int 1), some (.int 0)], [.int 1], (mm_fw2 (.inr (10, mm_fw2f30 (.int 1))) (.inl (.long, 1, .inr (.inl (fun _ => 0)))) [.inr (13, [])]))) 8 3000 rfl ?_
  exact mm_xfn rfl
set_option maxRecDepth 100000 in
set_option maxHeartbeats 4000000 in
theorem mm_lf2_1 (xs : Nat → Int32) (l1 : 0 ≤ (xs 1).toInt) (u1 : (xs 1).toInt ≤ 0) (l2 : 8 ≤ (xs 2).toInt) : mm_Ok xs 318 := by
  refine mm_Ok_of (w' := ((mm_w0.set 30 (.inr (10, (mm_f30.set 0 (.int 1))))) ++ [.inr (13, [])])) (mm_szP 6 (mm_szS 63 mm_sz0 rfl) rfl) rfl rfl ?_
  refine mm_xk (S' := (338, [some (.ref 1000004), some (.ref 0), some (.ref 30), some (.ref 47), some (.int 0), none, none], [.ref 47, .int (xs 3), .int (xs 2), .int (xs 1), .ref 0], (mm_fw2 (.inr (10, mm_fw2f30 (.int 0))) (.inl (.long, 1, .inr (.inl (fun _ => 0)))) []))) 17 3000 rfl ?_
  refine mm_xcl (v := (some (.int 1))) (w1 := (mm_fw2 (.inr (10, mm_fw2f30 (.int 0))) (.inl (.long, 1, .inr (.inl (fun _ => 0)))) [.inr (13, [])])) rfl ?_ ?_
  · skip
    refine mm_xk (S' := (7, [some (.ref 0), some (.int (xs 1)), some (.int (xs 2)), some (.int (xs 3)), some (.ref 47), none], [.int (xs 3), .int (xs 2), .int (xs 1), .ref 0, .int 0, .ref 47], (mm_fw2 (.inr (10, mm_fw2f30 (.int 0))) (.inl (.long, 1, .inr (.inl (fun _ => 0)))) []))) 6 3000 rfl ?_
    refine mm_xct (x := 13) (hp := 15) (w1 := (mm_fw2 (.inr (10, mm_fw2f30 (.int 0))) (.inl (.long, 1, .inr (.inl (fun _ => 0)))) [.inr (13, [])])) rfl ?_ rfl ?_
    · skip
      refine mm_xk (S' := (7, [some (.ref 0), some (.int (xs 1)), some (.int (xs 2)), some (.int (xs 3))], [.int (xs 3), .int (xs 2), .int (xs 1), .ref 1], (mm_fw2 (.inr (10, mm_fw2f30 (.int 0))) (.inl (.long, 1, .inr (.inl (fun _ => 0)))) []))) 5 3000 rfl ?_
      refine mm_xcl (v := (some (.int 0))) (w1 := (mm_fw2 (.inr (10, mm_fw2f30 (.int 0))) (.inl (.long, 1, .inr (.inl (fun _ => 0)))) [])) rfl ?_ ?_
      · skip
        refine mm_xk (S' := (1, [some (.ref 1), some (.int (xs 1)), some (.int (xs 2)), some (.int (xs 3))], [.int (xs 1)], (mm_fw2 (.inr (10, mm_fw2f30 (.int 0))) (.inl (.long, 1, .inr (.inl (fun _ => 0)))) []))) 1 3000 rfl ?_
        refine mm_xif1 rfl false (mm_lt0 (a := (xs 1).toInt) (b := 0) rfl rfl (by omega)) rfl ?_
        refine mm_xk (S' := (9, [some (.ref 1), some (.int (xs 1)), some (.int (xs 2)), some (.int (xs 3))], [.int 1, .int (xs 1)], (mm_fw2 (.inr (10, mm_fw2f30 (.int 0))) (.inl (.long, 1, .inr (.inl (fun _ => 0)))) []))) 3 3000 rfl ?_
        refine mm_xif2 rfl false (mm_ge0 (a := (xs 1).toInt) (b := 1) rfl rfl (by omega)) rfl ?_
        refine mm_xk (S' := (13, [some (.ref 1), some (.int (xs 1)), some (.int (xs 2)), some (.int (xs 3))], [.int (xs 2)], (mm_fw2 (.inr (10, mm_fw2f30 (.int 0))) (.inl (.long, 1, .inr (.inl (fun _ => 0)))) []))) 1 3000 rfl ?_
        refine mm_xif1 rfl false (mm_lt0 (a := (xs 2).toInt) (b := 0) rfl rfl (by omega)) rfl ?_
        refine mm_xk (S' := (21, [some (.ref 1), some (.int (xs 1)), some (.int (xs 2)), some (.int (xs 3))], [.int 8, .int (xs 2)], (mm_fw2 (.inr (10, mm_fw2f30 (.int 0))) (.inl (.long, 1, .inr (.inl (fun _ => 0)))) []))) 3 3000 rfl ?_
        refine mm_xif2 rfl true (mm_ge1 (a := (xs 2).toInt) (b := 8) rfl rfl (by omega)) rfl ?_
        refine mm_xk (S' := (41, [some (.ref 1), some (.int (xs 1)), some (.int (xs 2)), some (.int (xs 3))], [.int 0], (mm_fw2 (.inr (10, mm_fw2f30 (.int 0))) (.inl (.long, 1, .inr (.inl (fun _ => 0)))) []))) 1 3000 rfl ?_
        exact mm_xfn rfl
      refine mm_xk (S' := (13, [some (.ref 0), some (.int (xs 1)), some (.int (xs 2)), some (.int (xs 3))], [], (mm_fw2 (.inr (10, mm_fw2f30 (.int 0))) (.inl (.long, 1, .inr (.inl (fun _ => 0)))) []))) 1 3000 rfl ?_
      exact mm_xfn rfl
    refine mm_xk (S' := (18, [some (.ref 0), some (.int (xs 1)), some (.int (xs 2)), some (.int (xs 3)), some (.ref 47), some (.ref 48)], [.int 1], (mm_fw2 (.inr (10, mm_fw2f30 (.int 0))) (.inl (.long, 1, .inr (.inl (fun _ => 0)))) [.inr (13, [])]))) 2 3000 rfl ?_
    exact mm_xfn rfl
  refine mm_xk (S' := (362, [some (.ref 1000004), some (.ref 0), some (.ref 30), some (.ref 47), some (.int 0), some (.int 1), none], [.int (xs 3), .int (xs 2), .int (xs 1), .ref 30], (mm_fw2 (.inr (10, mm_fw2f30 (.int 0))) (.inl (.long, 1, .inr (.inl (fun _ => 0)))) [.inr (13, [])]))) 17 3000 rfl ?_
  refine mm_xcl (v := (some (.int 0))) (w1 := (mm_fw2 (.inr (10, mm_fw2f30 (.int 1))) (.inl (.long, 1, .inr (.inl (fun _ => 0)))) [.inr (13, [])])) rfl ?_ ?_
  · skip
    refine mm_xk (S' := (2, [some (.ref 30), some (.int (xs 1)), some (.int (xs 2)), some (.int (xs 3))], [.int (xs 1), .ref 30], (mm_fw2 (.inr (10, mm_fw2f30 (.int 0))) (.inl (.long, 1, .inr (.inl (fun _ => 0)))) [.inr (13, [])]))) 2 3000 rfl ?_
    refine mm_xif1 rfl false (mm_lt0 (a := (xs 1).toInt) (b := 0) rfl rfl (by omega)) rfl ?_
    refine mm_xk (S' := (10, [some (.ref 30), some (.int (xs 1)), some (.int (xs 2)), some (.int (xs 3))], [.int 1, .int (xs 1), .ref 30], (mm_fw2 (.inr (10, mm_fw2f30 (.int 0))) (.inl (.long, 1, .inr (.inl (fun _ => 0)))) [.inr (13, [])]))) 3 3000 rfl ?_
    refine mm_xif2 rfl false (mm_ge0 (a := (xs 1).toInt) (b := 1) rfl rfl (by omega)) rfl ?_
    refine mm_xk (S' := (14, [some (.ref 30), some (.int (xs 1)), some (.int (xs 2)), some (.int (xs 3))], [.int (xs 2), .ref 30], (mm_fw2 (.inr (10, mm_fw2f30 (.int 0))) (.inl (.long, 1, .inr (.inl (fun _ => 0)))) [.inr (13, [])]))) 1 3000 rfl ?_
    refine mm_xif1 rfl false (mm_lt0 (a := (xs 2).toInt) (b := 0) rfl rfl (by omega)) rfl ?_
    refine mm_xk (S' := (22, [some (.ref 30), some (.int (xs 1)), some (.int (xs 2)), some (.int (xs 3))], [.int 8, .int (xs 2), .ref 30], (mm_fw2 (.inr (10, mm_fw2f30 (.int 0))) (.inl (.long, 1, .inr (.inl (fun _ => 0)))) [.inr (13, [])]))) 3 3000 rfl ?_
    refine mm_xif2 rfl true (mm_ge1 (a := (xs 2).toInt) (b := 8) rfl rfl (by omega)) rfl ?_
    refine mm_xk (S' := (45, [some (.ref 30), some (.int (xs 1)), some (.int (xs 2)), some (.int (xs 3))], [], (mm_fw2 (.inr (10, mm_fw2f30 (.int 1))) (.inl (.long, 1, .inr (.inl (fun _ => 0)))) [.inr (13, [])]))) 2 3000 rfl ?_
    refine mm_xk (S' := (73, [some (.ref 30), some (.int (xs 1)), some (.int (xs 2)), some (.int (xs 3))], [.int 0], (mm_fw2 (.inr (10, mm_fw2f30 (.int 1))) (.inl (.long, 1, .inr (.inl (fun _ => 0)))) [.inr (13, [])]))) 5 3000 rfl ?_
    exact mm_xfn rfl
  refine mm_xk (S' := (1092, [some (.ref 1000004), some (.ref 0), some (.ref 30), some (.ref 47), some (.int 9), some (.int 1), some (.int 0)], [], (mm_fw2 (.inr (10, mm_fw2f30 (.int 1))) (.inl (.long, 1, .inr (.inl (fun _ => 0)))) [.inr (13, [])]))) 9 3000 rfl ?_
  refine mm_xk (S' := (1096, [some (.ref 1000004), some (.ref 0), some (.ref 30), some (.ref 47), some (.int 9), some (.int 1), some (.int 0)], [.int 1], (mm_fw2 (.inr (10, mm_fw2f30 (.int 1))) (.inl (.long, 1, .inr (.inl (fun _ => 0)))) [.inr (13, [])]))) 8 3000 rfl ?_
  exact mm_xfn rfl
set_option maxRecDepth 100000 in
set_option maxHeartbeats 4000000 in
theorem mm_lf2_2 (xs : Nat → Int32) (l1 : 0 ≤ (xs 1).toInt) (u1 : (xs 1).toInt ≤ 0) (l2 : 0 ≤ (xs 2).toInt) (u2 : (xs 2).toInt ≤ 7) (l3 : 8 ≤ (xs 3).toInt) : mm_Ok xs 318 := by
  refine mm_Ok_of (w' := ((mm_w0.set 30 (.inr (10, (mm_f30.set 0 (.int 1))))) ++ [.inr (13, [])])) (mm_szP 6 (mm_szS 63 mm_sz0 rfl) rfl) rfl rfl ?_
  refine mm_xk (S' := (338, [some (.ref 1000004), some (.ref 0), some (.ref 30), some (.ref 47), some (.int 0), none, none], [.ref 47, .int (xs 3), .int (xs 2), .int (xs 1), .ref 0], (mm_fw2 (.inr (10, mm_fw2f30 (.int 0))) (.inl (.long, 1, .inr (.inl (fun _ => 0)))) []))) 17 3000 rfl ?_
  refine mm_xcl (v := (some (.int 1))) (w1 := (mm_fw2 (.inr (10, mm_fw2f30 (.int 0))) (.inl (.long, 1, .inr (.inl (fun _ => 0)))) [.inr (13, [])])) rfl ?_ ?_
  · skip
    refine mm_xk (S' := (7, [some (.ref 0), some (.int (xs 1)), some (.int (xs 2)), some (.int (xs 3)), some (.ref 47), none], [.int (xs 3), .int (xs 2), .int (xs 1), .ref 0, .int 0, .ref 47], (mm_fw2 (.inr (10, mm_fw2f30 (.int 0))) (.inl (.long, 1, .inr (.inl (fun _ => 0)))) []))) 6 3000 rfl ?_
    refine mm_xct (x := 13) (hp := 15) (w1 := (mm_fw2 (.inr (10, mm_fw2f30 (.int 0))) (.inl (.long, 1, .inr (.inl (fun _ => 0)))) [.inr (13, [])])) rfl ?_ rfl ?_
    · skip
      refine mm_xk (S' := (7, [some (.ref 0), some (.int (xs 1)), some (.int (xs 2)), some (.int (xs 3))], [.int (xs 3), .int (xs 2), .int (xs 1), .ref 1], (mm_fw2 (.inr (10, mm_fw2f30 (.int 0))) (.inl (.long, 1, .inr (.inl (fun _ => 0)))) []))) 5 3000 rfl ?_
      refine mm_xcl (v := (some (.int 0))) (w1 := (mm_fw2 (.inr (10, mm_fw2f30 (.int 0))) (.inl (.long, 1, .inr (.inl (fun _ => 0)))) [])) rfl ?_ ?_
      · skip
        refine mm_xk (S' := (1, [some (.ref 1), some (.int (xs 1)), some (.int (xs 2)), some (.int (xs 3))], [.int (xs 1)], (mm_fw2 (.inr (10, mm_fw2f30 (.int 0))) (.inl (.long, 1, .inr (.inl (fun _ => 0)))) []))) 1 3000 rfl ?_
        refine mm_xif1 rfl false (mm_lt0 (a := (xs 1).toInt) (b := 0) rfl rfl (by omega)) rfl ?_
        refine mm_xk (S' := (9, [some (.ref 1), some (.int (xs 1)), some (.int (xs 2)), some (.int (xs 3))], [.int 1, .int (xs 1)], (mm_fw2 (.inr (10, mm_fw2f30 (.int 0))) (.inl (.long, 1, .inr (.inl (fun _ => 0)))) []))) 3 3000 rfl ?_
        refine mm_xif2 rfl false (mm_ge0 (a := (xs 1).toInt) (b := 1) rfl rfl (by omega)) rfl ?_
        refine mm_xk (S' := (13, [some (.ref 1), some (.int (xs 1)), some (.int (xs 2)), some (.int (xs 3))], [.int (xs 2)], (mm_fw2 (.inr (10, mm_fw2f30 (.int 0))) (.inl (.long, 1, .inr (.inl (fun _ => 0)))) []))) 1 3000 rfl ?_
        refine mm_xif1 rfl false (mm_lt0 (a := (xs 2).toInt) (b := 0) rfl rfl (by omega)) rfl ?_
        refine mm_xk (S' := (21, [some (.ref 1), some (.int (xs 1)), some (.int (xs 2)), some (.int (xs 3))], [.int 8, .int (xs 2)], (mm_fw2 (.inr (10, mm_fw2f30 (.int 0))) (.inl (.long, 1, .inr (.inl (fun _ => 0)))) []))) 3 3000 rfl ?_
        refine mm_xif2 rfl false (mm_ge0 (a := (xs 2).toInt) (b := 8) rfl rfl (by omega)) rfl ?_
        refine mm_xk (S' := (25, [some (.ref 1), some (.int (xs 1)), some (.int (xs 2)), some (.int (xs 3))], [.int (xs 3)], (mm_fw2 (.inr (10, mm_fw2f30 (.int 0))) (.inl (.long, 1, .inr (.inl (fun _ => 0)))) []))) 1 3000 rfl ?_
        refine mm_xif1 rfl false (mm_lt0 (a := (xs 3).toInt) (b := 0) rfl rfl (by omega)) rfl ?_
        refine mm_xk (S' := (33, [some (.ref 1), some (.int (xs 1)), some (.int (xs 2)), some (.int (xs 3))], [.int 8, .int (xs 3)], (mm_fw2 (.inr (10, mm_fw2f30 (.int 0))) (.inl (.long, 1, .inr (.inl (fun _ => 0)))) []))) 3 3000 rfl ?_
        refine mm_xif2 rfl true (mm_ge1 (a := (xs 3).toInt) (b := 8) rfl rfl (by omega)) rfl ?_
        refine mm_xk (S' := (41, [some (.ref 1), some (.int (xs 1)), some (.int (xs 2)), some (.int (xs 3))], [.int 0], (mm_fw2 (.inr (10, mm_fw2f30 (.int 0))) (.inl (.long, 1, .inr (.inl (fun _ => 0)))) []))) 1 3000 rfl ?_
        exact mm_xfn rfl
      refine mm_xk (S' := (13, [some (.ref 0), some (.int (xs 1)), some (.int (xs 2)), some (.int (xs 3))], [], (mm_fw2 (.inr (10, mm_fw2f30 (.int 0))) (.inl (.long, 1, .inr (.inl (fun _ => 0)))) []))) 1 3000 rfl ?_
      exact mm_xfn rfl
    refine mm_xk (S' := (18, [some (.ref 0), some (.int (xs 1)), some (.int (xs 2)), some (.int (xs 3)), some (.ref 47), some (.ref 48)], [.int 1], (mm_fw2 (.inr (10, mm_fw2f30 (.int 0))) (.inl (.long, 1, .inr (.inl (fun _ => 0)))) [.inr (13, [])]))) 2 3000 rfl ?_
    exact mm_xfn rfl
  refine mm_xk (S' := (362, [some (.ref 1000004), some (.ref 0), some (.ref 30), some (.ref 47), some (.int 0), some (.int 1), none], [.int (xs 3), .int (xs 2), .int (xs 1), .ref 30], (mm_fw2 (.inr (10, mm_fw2f30 (.int 0))) (.inl (.long, 1, .inr (.inl (fun _ => 0)))) [.inr (13, [])]))) 17 3000 rfl ?_
  refine mm_xcl (v := (some (.int 0))) (w1 := (mm_fw2 (.inr (10, mm_fw2f30 (.int 1))) (.inl (.long, 1, .inr (.inl (fun _ => 0)))) [.inr (13, [])])) rfl ?_ ?_
  · skip
    refine mm_xk (S' := (2, [some (.ref 30), some (.int (xs 1)), some (.int (xs 2)), some (.int (xs 3))], [.int (xs 1), .ref 30], (mm_fw2 (.inr (10, mm_fw2f30 (.int 0))) (.inl (.long, 1, .inr (.inl (fun _ => 0)))) [.inr (13, [])]))) 2 3000 rfl ?_
    refine mm_xif1 rfl false (mm_lt0 (a := (xs 1).toInt) (b := 0) rfl rfl (by omega)) rfl ?_
    refine mm_xk (S' := (10, [some (.ref 30), some (.int (xs 1)), some (.int (xs 2)), some (.int (xs 3))], [.int 1, .int (xs 1), .ref 30], (mm_fw2 (.inr (10, mm_fw2f30 (.int 0))) (.inl (.long, 1, .inr (.inl (fun _ => 0)))) [.inr (13, [])]))) 3 3000 rfl ?_
    refine mm_xif2 rfl false (mm_ge0 (a := (xs 1).toInt) (b := 1) rfl rfl (by omega)) rfl ?_
    refine mm_xk (S' := (14, [some (.ref 30), some (.int (xs 1)), some (.int (xs 2)), some (.int (xs 3))], [.int (xs 2), .ref 30], (mm_fw2 (.inr (10, mm_fw2f30 (.int 0))) (.inl (.long, 1, .inr (.inl (fun _ => 0)))) [.inr (13, [])]))) 1 3000 rfl ?_
    refine mm_xif1 rfl false (mm_lt0 (a := (xs 2).toInt) (b := 0) rfl rfl (by omega)) rfl ?_
    refine mm_xk (S' := (22, [some (.ref 30), some (.int (xs 1)), some (.int (xs 2)), some (.int (xs 3))], [.int 8, .int (xs 2), .ref 30], (mm_fw2 (.inr (10, mm_fw2f30 (.int 0))) (.inl (.long, 1, .inr (.inl (fun _ => 0)))) [.inr (13, [])]))) 3 3000 rfl ?_
    refine mm_xif2 rfl false (mm_ge0 (a := (xs 2).toInt) (b := 8) rfl rfl (by omega)) rfl ?_
    refine mm_xk (S' := (26, [some (.ref 30), some (.int (xs 1)), some (.int (xs 2)), some (.int (xs 3))], [.int (xs 3), .ref 30], (mm_fw2 (.inr (10, mm_fw2f30 (.int 0))) (.inl (.long, 1, .inr (.inl (fun _ => 0)))) [.inr (13, [])]))) 1 3000 rfl ?_
    refine mm_xif1 rfl false (mm_lt0 (a := (xs 3).toInt) (b := 0) rfl rfl (by omega)) rfl ?_
    refine mm_xk (S' := (34, [some (.ref 30), some (.int (xs 1)), some (.int (xs 2)), some (.int (xs 3))], [.int 8, .int (xs 3), .ref 30], (mm_fw2 (.inr (10, mm_fw2f30 (.int 0))) (.inl (.long, 1, .inr (.inl (fun _ => 0)))) [.inr (13, [])]))) 3 3000 rfl ?_
    refine mm_xif2 rfl true (mm_ge1 (a := (xs 3).toInt) (b := 8) rfl rfl (by omega)) rfl ?_
    refine mm_xk (S' := (45, [some (.ref 30), some (.int (xs 1)), some (.int (xs 2)), some (.int (xs 3))], [], (mm_fw2 (.inr (10, mm_fw2f30 (.int 1))) (.inl (.long, 1, .inr (.inl (fun _ => 0)))) [.inr (13, [])]))) 2 3000 rfl ?_
    refine mm_xk (S' := (73, [some (.ref 30), some (.int (xs 1)), some (.int (xs 2)), some (.int (xs 3))], [.int 0], (mm_fw2 (.inr (10, mm_fw2f30 (.int 1))) (.inl (.long, 1, .inr (.inl (fun _ => 0)))) [.inr (13, [])]))) 5 3000 rfl ?_
    exact mm_xfn rfl
  refine mm_xk (S' := (1092, [some (.ref 1000004), some (.ref 0), some (.ref 30), some (.ref 47), some (.int 9), some (.int 1), some (.int 0)], [], (mm_fw2 (.inr (10, mm_fw2f30 (.int 1))) (.inl (.long, 1, .inr (.inl (fun _ => 0)))) [.inr (13, [])]))) 9 3000 rfl ?_
  refine mm_xk (S' := (1096, [some (.ref 1000004), some (.ref 0), some (.ref 30), some (.ref 47), some (.int 9), some (.int 1), some (.int 0)], [.int 1], (mm_fw2 (.inr (10, mm_fw2f30 (.int 1))) (.inl (.long, 1, .inr (.inl (fun _ => 0)))) [.inr (13, [])]))) 8 3000 rfl ?_
  exact mm_xfn rfl
set_option maxRecDepth 100000 in
set_option maxHeartbeats 4000000 in
theorem mm_lf2_3 (xs : Nat → Int32) (l1 : 0 ≤ (xs 1).toInt) (u1 : (xs 1).toInt ≤ 0) (l2 : 0 ≤ (xs 2).toInt) (u2 : (xs 2).toInt ≤ 7) (l3 : 0 ≤ (xs 3).toInt) (u3 : (xs 3).toInt ≤ 7) (hc0 : mm_bd (((((xs 1 * 8) + xs 3) * 8) + xs 2)) 64) (hc1 : mm_bd ((((4096 * xs 1) + (64 * xs 3)) + xs 2)) 12288) : mm_Ok xs 318 := by
  refine mm_Ok_of (w' := ((mm_w0.set 30 (.inr (10, mm_f30))).set 47 (.inl (.long, 1, .inr (.inl (vp_updL (fun _ => 0) 0 0)))))) (mm_szS 1 (mm_szS 63 mm_sz0 rfl) rfl) rfl rfl ?_
  refine mm_xk (S' := (338, [some (.ref 1000004), some (.ref 0), some (.ref 30), some (.ref 47), some (.int 0), none, none], [.ref 47, .int (xs 3), .int (xs 2), .int (xs 1), .ref 0], (mm_fw2 (.inr (10, mm_fw2f30 (.int 0))) (.inl (.long, 1, .inr (.inl (fun _ => 0)))) []))) 17 3000 rfl ?_
  refine mm_xcl (v := (some (.int 0))) (w1 := (mm_fw2 (.inr (10, mm_fw2f30 (.int 0))) (.inl (.long, 1, .inr (.inl (vp_updL (fun _ => 0) 0 0)))) [])) rfl ?_ ?_
  · skip
    refine mm_xk (S' := (7, [some (.ref 0), some (.int (xs 1)), some (.int (xs 2)), some (.int (xs 3)), some (.ref 47), none], [.int (xs 3), .int (xs 2), .int (xs 1), .ref 0, .int 0, .ref 47], (mm_fw2 (.inr (10, mm_fw2f30 (.int 0))) (.inl (.long, 1, .inr (.inl (fun _ => 0)))) []))) 6 3000 rfl ?_
    refine mm_xcl (v := (some (.int 0))) (w1 := (mm_fw2 (.inr (10, mm_fw2f30 (.int 0))) (.inl (.long, 1, .inr (.inl (fun _ => 0)))) [])) rfl ?_ ?_
    · skip
      refine mm_xk (S' := (7, [some (.ref 0), some (.int (xs 1)), some (.int (xs 2)), some (.int (xs 3))], [.int (xs 3), .int (xs 2), .int (xs 1), .ref 1], (mm_fw2 (.inr (10, mm_fw2f30 (.int 0))) (.inl (.long, 1, .inr (.inl (fun _ => 0)))) []))) 5 3000 rfl ?_
      refine mm_xcl (v := (some (.int 1))) (w1 := (mm_fw2 (.inr (10, mm_fw2f30 (.int 0))) (.inl (.long, 1, .inr (.inl (fun _ => 0)))) [])) rfl ?_ ?_
      · skip
        refine mm_xk (S' := (1, [some (.ref 1), some (.int (xs 1)), some (.int (xs 2)), some (.int (xs 3))], [.int (xs 1)], (mm_fw2 (.inr (10, mm_fw2f30 (.int 0))) (.inl (.long, 1, .inr (.inl (fun _ => 0)))) []))) 1 3000 rfl ?_
        refine mm_xif1 rfl false (mm_lt0 (a := (xs 1).toInt) (b := 0) rfl rfl (by omega)) rfl ?_
        refine mm_xk (S' := (9, [some (.ref 1), some (.int (xs 1)), some (.int (xs 2)), some (.int (xs 3))], [.int 1, .int (xs 1)], (mm_fw2 (.inr (10, mm_fw2f30 (.int 0))) (.inl (.long, 1, .inr (.inl (fun _ => 0)))) []))) 3 3000 rfl ?_
        refine mm_xif2 rfl false (mm_ge0 (a := (xs 1).toInt) (b := 1) rfl rfl (by omega)) rfl ?_
        refine mm_xk (S' := (13, [some (.ref 1), some (.int (xs 1)), some (.int (xs 2)), some (.int (xs 3))], [.int (xs 2)], (mm_fw2 (.inr (10, mm_fw2f30 (.int 0))) (.inl (.long, 1, .inr (.inl (fun _ => 0)))) []))) 1 3000 rfl ?_
        refine mm_xif1 rfl false (mm_lt0 (a := (xs 2).toInt) (b := 0) rfl rfl (by omega)) rfl ?_
        refine mm_xk (S' := (21, [some (.ref 1), some (.int (xs 1)), some (.int (xs 2)), some (.int (xs 3))], [.int 8, .int (xs 2)], (mm_fw2 (.inr (10, mm_fw2f30 (.int 0))) (.inl (.long, 1, .inr (.inl (fun _ => 0)))) []))) 3 3000 rfl ?_
        refine mm_xif2 rfl false (mm_ge0 (a := (xs 2).toInt) (b := 8) rfl rfl (by omega)) rfl ?_
        refine mm_xk (S' := (25, [some (.ref 1), some (.int (xs 1)), some (.int (xs 2)), some (.int (xs 3))], [.int (xs 3)], (mm_fw2 (.inr (10, mm_fw2f30 (.int 0))) (.inl (.long, 1, .inr (.inl (fun _ => 0)))) []))) 1 3000 rfl ?_
        refine mm_xif1 rfl false (mm_lt0 (a := (xs 3).toInt) (b := 0) rfl rfl (by omega)) rfl ?_
        refine mm_xk (S' := (33, [some (.ref 1), some (.int (xs 1)), some (.int (xs 2)), some (.int (xs 3))], [.int 8, .int (xs 3)], (mm_fw2 (.inr (10, mm_fw2f30 (.int 0))) (.inl (.long, 1, .inr (.inl (fun _ => 0)))) []))) 3 3000 rfl ?_
        refine mm_xif2 rfl false (mm_ge0 (a := (xs 3).toInt) (b := 8) rfl rfl (by omega)) rfl ?_
        refine mm_xk (S' := (41, [some (.ref 1), some (.int (xs 1)), some (.int (xs 2)), some (.int (xs 3))], [.int 1], (mm_fw2 (.inr (10, mm_fw2f30 (.int 0))) (.inl (.long, 1, .inr (.inl (fun _ => 0)))) []))) 2 3000 rfl ?_
        exact mm_xfn rfl
      refine mm_xk (S' := (38, [some (.ref 0), some (.int (xs 1)), some (.int (xs 2)), some (.int (xs 3))], [.int ((((xs 1 * 8) + xs 3) * 8) + xs 2), .ref 29], (mm_fw2 (.inr (10, mm_fw2f30 (.int 0))) (.inl (.long, 1, .inr (.inl (fun _ => 0)))) []))) 10 3000 rfl ?_
      refine mm_xild rfl rfl hc0 ?_
      exact mm_xfn rfl
    refine mm_xk (S' := (20, [some (.ref 0), some (.int (xs 1)), some (.int (xs 2)), some (.int (xs 3)), some (.ref 47), none], [.int 0], (mm_fw2 (.inr (10, mm_fw2f30 (.int 0))) (.inl (.long, 1, .inr (.inl (vp_updL (fun _ => 0) 0 0)))) []))) 4 3000 rfl ?_
    exact mm_xfn rfl
  refine mm_xk (S' := (362, [some (.ref 1000004), some (.ref 0), some (.ref 30), some (.ref 47), some (.int 0), some (.int 0), none], [.int (xs 3), .int (xs 2), .int (xs 1), .ref 30], (mm_fw2 (.inr (10, mm_fw2f30 (.int 0))) (.inl (.long, 1, .inr (.inl (vp_updL (fun _ => 0) 0 0)))) []))) 17 3000 rfl ?_
  refine mm_xcl (v := (some (.int 0))) (w1 := (mm_fw2 (.inr (10, mm_fw2f30 (.int 0))) (.inl (.long, 1, .inr (.inl (vp_updL (fun _ => 0) 0 0)))) [])) rfl ?_ ?_
  · skip
    refine mm_xk (S' := (2, [some (.ref 30), some (.int (xs 1)), some (.int (xs 2)), some (.int (xs 3))], [.int (xs 1), .ref 30], (mm_fw2 (.inr (10, mm_fw2f30 (.int 0))) (.inl (.long, 1, .inr (.inl (vp_updL (fun _ => 0) 0 0)))) []))) 2 3000 rfl ?_
    refine mm_xif1 rfl false (mm_lt0 (a := (xs 1).toInt) (b := 0) rfl rfl (by omega)) rfl ?_
    refine mm_xk (S' := (10, [some (.ref 30), some (.int (xs 1)), some (.int (xs 2)), some (.int (xs 3))], [.int 1, .int (xs 1), .ref 30], (mm_fw2 (.inr (10, mm_fw2f30 (.int 0))) (.inl (.long, 1, .inr (.inl (vp_updL (fun _ => 0) 0 0)))) []))) 3 3000 rfl ?_
    refine mm_xif2 rfl false (mm_ge0 (a := (xs 1).toInt) (b := 1) rfl rfl (by omega)) rfl ?_
    refine mm_xk (S' := (14, [some (.ref 30), some (.int (xs 1)), some (.int (xs 2)), some (.int (xs 3))], [.int (xs 2), .ref 30], (mm_fw2 (.inr (10, mm_fw2f30 (.int 0))) (.inl (.long, 1, .inr (.inl (vp_updL (fun _ => 0) 0 0)))) []))) 1 3000 rfl ?_
    refine mm_xif1 rfl false (mm_lt0 (a := (xs 2).toInt) (b := 0) rfl rfl (by omega)) rfl ?_
    refine mm_xk (S' := (22, [some (.ref 30), some (.int (xs 1)), some (.int (xs 2)), some (.int (xs 3))], [.int 8, .int (xs 2), .ref 30], (mm_fw2 (.inr (10, mm_fw2f30 (.int 0))) (.inl (.long, 1, .inr (.inl (vp_updL (fun _ => 0) 0 0)))) []))) 3 3000 rfl ?_
    refine mm_xif2 rfl false (mm_ge0 (a := (xs 2).toInt) (b := 8) rfl rfl (by omega)) rfl ?_
    refine mm_xk (S' := (26, [some (.ref 30), some (.int (xs 1)), some (.int (xs 2)), some (.int (xs 3))], [.int (xs 3), .ref 30], (mm_fw2 (.inr (10, mm_fw2f30 (.int 0))) (.inl (.long, 1, .inr (.inl (vp_updL (fun _ => 0) 0 0)))) []))) 1 3000 rfl ?_
    refine mm_xif1 rfl false (mm_lt0 (a := (xs 3).toInt) (b := 0) rfl rfl (by omega)) rfl ?_
    refine mm_xk (S' := (34, [some (.ref 30), some (.int (xs 1)), some (.int (xs 2)), some (.int (xs 3))], [.int 8, .int (xs 3), .ref 30], (mm_fw2 (.inr (10, mm_fw2f30 (.int 0))) (.inl (.long, 1, .inr (.inl (vp_updL (fun _ => 0) 0 0)))) []))) 3 3000 rfl ?_
    refine mm_xif2 rfl false (mm_ge0 (a := (xs 3).toInt) (b := 8) rfl rfl (by omega)) rfl ?_
    refine mm_xk (S' := (45, [some (.ref 30), some (.int (xs 1)), some (.int (xs 2)), some (.int (xs 3))], [], (mm_fw2 (.inr (10, mm_fw2f30 (.int 0))) (.inl (.long, 1, .inr (.inl (vp_updL (fun _ => 0) 0 0)))) []))) 3 3000 rfl ?_
    refine mm_xk (S' := (72, [some (.ref 30), some (.int (xs 1)), some (.int (xs 2)), some (.int (xs 3))], [.int (((4096 * xs 1) + (64 * xs 3)) + xs 2), .ref 31], (mm_fw2 (.inr (10, mm_fw2f30 (.int 0))) (.inl (.long, 1, .inr (.inl (vp_updL (fun _ => 0) 0 0)))) []))) 14 3000 rfl ?_
    refine mm_xild rfl rfl hc1 ?_
    exact mm_xfn rfl
  refine mm_xk (S' := (1092, [some (.ref 1000004), some (.ref 0), some (.ref 30), some (.ref 47), some (.int 9), some (.int 0), some (.int 0)], [], (mm_fw2 (.inr (10, mm_fw2f30 (.int 0))) (.inl (.long, 1, .inr (.inl (vp_updL (fun _ => 0) 0 0)))) []))) 16 3000 rfl ?_
  refine mm_xk (S' := (1096, [some (.ref 1000004), some (.ref 0), some (.ref 30), some (.ref 47), some (.int 9), some (.int 0), some (.int 0)], [.int 1], (mm_fw2 (.inr (10, mm_fw2f30 (.int 0))) (.inl (.long, 1, .inr (.inl (vp_updL (fun _ => 0) 0 0)))) []))) 8 3000 rfl ?_
  exact mm_xfn rfl
set_option maxRecDepth 100000 in
set_option maxHeartbeats 4000000 in
theorem mm_lf2_4 (xs : Nat → Int32) (l1 : 0 ≤ (xs 1).toInt) (u1 : (xs 1).toInt ≤ 0) (l2 : 0 ≤ (xs 2).toInt) (u2 : (xs 2).toInt ≤ 7) (u3 : (xs 3).toInt ≤ -1) : mm_Ok xs 318 := by
  refine mm_Ok_of (w' := ((mm_w0.set 30 (.inr (10, (mm_f30.set 0 (.int 1))))) ++ [.inr (13, [])])) (mm_szP 6 (mm_szS 63 mm_sz0 rfl) rfl) rfl rfl ?_
  refine mm_xk (S' := (338, [some (.ref 1000004), some (.ref 0), some (.ref 30), some (.ref 47), some (.int 0), none, none], [.ref 47, .int (xs 3), .int (xs 2), .int (xs 1), .ref 0], (mm_fw2 (.inr (10, mm_fw2f30 (.int 0))) (.inl (.long, 1, .inr (.inl (fun _ => 0)))) []))) 17 3000 rfl ?_
  refine mm_xcl (v := (some (.int 1))) (w1 := (mm_fw2 (.inr (10, mm_fw2f30 (.int 0))) (.inl (.long, 1, .inr (.inl (fun _ => 0)))) [.inr (13, [])])) rfl ?_ ?_
  · skip
    refine mm_xk (S' := (7, [some (.ref 0), some (.int (xs 1)), some (.int (xs 2)), some (.int (xs 3)), some (.ref 47), none], [.int (xs 3), .int (xs 2), .int (xs 1), .ref 0, .int 0, .ref 47], (mm_fw2 (.inr (10, mm_fw2f30 (.int 0))) (.inl (.long, 1, .inr (.inl (fun _ => 0)))) []))) 6 3000 rfl ?_
    refine mm_xct (x := 13) (hp := 15) (w1 := (mm_fw2 (.inr (10, mm_fw2f30 (.int 0))) (.inl (.long, 1, .inr (.inl (fun _ => 0)))) [.inr (13, [])])) rfl ?_ rfl ?_
    · skip
      refine mm_xk (S' := (7, [some (.ref 0), some (.int (xs 1)), some (.int (xs 2)), some (.int (xs 3))], [.int (xs 3), .int (xs 2), .int (xs 1), .ref 1], (mm_fw2 (.inr (10, mm_fw2f30 (.int 0))) (.inl (.long, 1, .inr (.inl (fun _ => 0)))) []))) 5 3000 rfl ?_
      refine mm_xcl (v := (some (.int 0))) (w1 := (mm_fw2 (.inr (10, mm_fw2f30 (.int 0))) (.inl (.long, 1, .inr (.inl (fun _ => 0)))) [])) rfl ?_ ?_
      · skip
        refine mm_xk (S' := (1, [some (.ref 1), some (.int (xs 1)), some (.int (xs 2)), some (.int (xs 3))], [.int (xs 1)], (mm_fw2 (.inr (10, mm_fw2f30 (.int 0))) (.inl (.long, 1, .inr (.inl (fun _ => 0)))) []))) 1 3000 rfl ?_
        refine mm_xif1 rfl false (mm_lt0 (a := (xs 1).toInt) (b := 0) rfl rfl (by omega)) rfl ?_
        refine mm_xk (S' := (9, [some (.ref 1), some (.int (xs 1)), some (.int (xs 2)), some (.int (xs 3))], [.int 1, .int (xs 1)], (mm_fw2 (.inr (10, mm_fw2f30 (.int 0))) (.inl (.long, 1, .inr (.inl (fun _ => 0)))) []))) 3 3000 rfl ?_
        refine mm_xif2 rfl false (mm_ge0 (a := (xs 1).toInt) (b := 1) rfl rfl (by omega)) rfl ?_
        refine mm_xk (S' := (13, [some (.ref 1), some (.int (xs 1)), some (.int (xs 2)), some (.int (xs 3))], [.int (xs 2)], (mm_fw2 (.inr (10, mm_fw2f30 (.int 0))) (.inl (.long, 1, .inr (.inl (fun _ => 0)))) []))) 1 3000 rfl ?_
        refine mm_xif1 rfl false (mm_lt0 (a := (xs 2).toInt) (b := 0) rfl rfl (by omega)) rfl ?_
        refine mm_xk (S' := (21, [some (.ref 1), some (.int (xs 1)), some (.int (xs 2)), some (.int (xs 3))], [.int 8, .int (xs 2)], (mm_fw2 (.inr (10, mm_fw2f30 (.int 0))) (.inl (.long, 1, .inr (.inl (fun _ => 0)))) []))) 3 3000 rfl ?_
        refine mm_xif2 rfl false (mm_ge0 (a := (xs 2).toInt) (b := 8) rfl rfl (by omega)) rfl ?_
        refine mm_xk (S' := (25, [some (.ref 1), some (.int (xs 1)), some (.int (xs 2)), some (.int (xs 3))], [.int (xs 3)], (mm_fw2 (.inr (10, mm_fw2f30 (.int 0))) (.inl (.long, 1, .inr (.inl (fun _ => 0)))) []))) 1 3000 rfl ?_
        refine mm_xif1 rfl true (mm_lt1 (a := (xs 3).toInt) (b := 0) rfl rfl (by omega)) rfl ?_
        refine mm_xk (S' := (41, [some (.ref 1), some (.int (xs 1)), some (.int (xs 2)), some (.int (xs 3))], [.int 0], (mm_fw2 (.inr (10, mm_fw2f30 (.int 0))) (.inl (.long, 1, .inr (.inl (fun _ => 0)))) []))) 1 3000 rfl ?_
        exact mm_xfn rfl
      refine mm_xk (S' := (13, [some (.ref 0), some (.int (xs 1)), some (.int (xs 2)), some (.int (xs 3))], [], (mm_fw2 (.inr (10, mm_fw2f30 (.int 0))) (.inl (.long, 1, .inr (.inl (fun _ => 0)))) []))) 1 3000 rfl ?_
      exact mm_xfn rfl
    refine mm_xk (S' := (18, [some (.ref 0), some (.int (xs 1)), some (.int (xs 2)), some (.int (xs 3)), some (.ref 47), some (.ref 48)], [.int 1], (mm_fw2 (.inr (10, mm_fw2f30 (.int 0))) (.inl (.long, 1, .inr (.inl (fun _ => 0)))) [.inr (13, [])]))) 2 3000 rfl ?_
    exact mm_xfn rfl
  refine mm_xk (S' := (362, [some (.ref 1000004), some (.ref 0), some (.ref 30), some (.ref 47), some (.int 0), some (.int 1), none], [.int (xs 3), .int (xs 2), .int (xs 1), .ref 30], (mm_fw2 (.inr (10, mm_fw2f30 (.int 0))) (.inl (.long, 1, .inr (.inl (fun _ => 0)))) [.inr (13, [])]))) 17 3000 rfl ?_
  refine mm_xcl (v := (some (.int 0))) (w1 := (mm_fw2 (.inr (10, mm_fw2f30 (.int 1))) (.inl (.long, 1, .inr (.inl (fun _ => 0)))) [.inr (13, [])])) rfl ?_ ?_
  · skip
    refine mm_xk (S' := (2, [some (.ref 30), some (.int (xs 1)), some (.int (xs 2)), some (.int (xs 3))], [.int (xs 1), .ref 30], (mm_fw2 (.inr (10, mm_fw2f30 (.int 0))) (.inl (.long, 1, .inr (.inl (fun _ => 0)))) [.inr (13, [])]))) 2 3000 rfl ?_
    refine mm_xif1 rfl false (mm_lt0 (a := (xs 1).toInt) (b := 0) rfl rfl (by omega)) rfl ?_
    refine mm_xk (S' := (10, [some (.ref 30), some (.int (xs 1)), some (.int (xs 2)), some (.int (xs 3))], [.int 1, .int (xs 1), .ref 30], (mm_fw2 (.inr (10, mm_fw2f30 (.int 0))) (.inl (.long, 1, .inr (.inl (fun _ => 0)))) [.inr (13, [])]))) 3 3000 rfl ?_
    refine mm_xif2 rfl false (mm_ge0 (a := (xs 1).toInt) (b := 1) rfl rfl (by omega)) rfl ?_
    refine mm_xk (S' := (14, [some (.ref 30), some (.int (xs 1)), some (.int (xs 2)), some (.int (xs 3))], [.int (xs 2), .ref 30], (mm_fw2 (.inr (10, mm_fw2f30 (.int 0))) (.inl (.long, 1, .inr (.inl (fun _ => 0)))) [.inr (13, [])]))) 1 3000 rfl ?_
    refine mm_xif1 rfl false (mm_lt0 (a := (xs 2).toInt) (b := 0) rfl rfl (by omega)) rfl ?_
    refine mm_xk (S' := (22, [some (.ref 30), some (.int (xs 1)), some (.int (xs 2)), some (.int (xs 3))], [.int 8, .int (xs 2), .ref 30], (mm_fw2 (.inr (10, mm_fw2f30 (.int 0))) (.inl (.long, 1, .inr (.inl (fun _ => 0)))) [.inr (13, [])]))) 3 3000 rfl ?_
    refine mm_xif2 rfl false (mm_ge0 (a := (xs 2).toInt) (b := 8) rfl rfl (by omega)) rfl ?_
    refine mm_xk (S' := (26, [some (.ref 30), some (.int (xs 1)), some (.int (xs 2)), some (.int (xs 3))], [.int (xs 3), .ref 30], (mm_fw2 (.inr (10, mm_fw2f30 (.int 0))) (.inl (.long, 1, .inr (.inl (fun _ => 0)))) [.inr (13, [])]))) 1 3000 rfl ?_
    refine mm_xif1 rfl true (mm_lt1 (a := (xs 3).toInt) (b := 0) rfl rfl (by omega)) rfl ?_
    refine mm_xk (S' := (45, [some (.ref 30), some (.int (xs 1)), some (.int (xs 2)), some (.int (xs 3))], [], (mm_fw2 (.inr (10, mm_fw2f30 (.int 1))) (.inl (.long, 1, .inr (.inl (fun _ => 0)))) [.inr (13, [])]))) 2 3000 rfl ?_
    refine mm_xk (S' := (73, [some (.ref 30), some (.int (xs 1)), some (.int (xs 2)), some (.int (xs 3))], [.int 0], (mm_fw2 (.inr (10, mm_fw2f30 (.int 1))) (.inl (.long, 1, .inr (.inl (fun _ => 0)))) [.inr (13, [])]))) 5 3000 rfl ?_
    exact mm_xfn rfl
  refine mm_xk (S' := (1092, [some (.ref 1000004), some (.ref 0), some (.ref 30), some (.ref 47), some (.int 9), some (.int 1), some (.int 0)], [], (mm_fw2 (.inr (10, mm_fw2f30 (.int 1))) (.inl (.long, 1, .inr (.inl (fun _ => 0)))) [.inr (13, [])]))) 9 3000 rfl ?_
  refine mm_xk (S' := (1096, [some (.ref 1000004), some (.ref 0), some (.ref 30), some (.ref 47), some (.int 9), some (.int 1), some (.int 0)], [.int 1], (mm_fw2 (.inr (10, mm_fw2f30 (.int 1))) (.inl (.long, 1, .inr (.inl (fun _ => 0)))) [.inr (13, [])]))) 8 3000 rfl ?_
  exact mm_xfn rfl
set_option maxRecDepth 100000 in
set_option maxHeartbeats 4000000 in
theorem mm_lf2_5 (xs : Nat → Int32) (l1 : 0 ≤ (xs 1).toInt) (u1 : (xs 1).toInt ≤ 0) (u2 : (xs 2).toInt ≤ -1) : mm_Ok xs 318 := by
  refine mm_Ok_of (w' := ((mm_w0.set 30 (.inr (10, (mm_f30.set 0 (.int 1))))) ++ [.inr (13, [])])) (mm_szP 6 (mm_szS 63 mm_sz0 rfl) rfl) rfl rfl ?_
  refine mm_xk (S' := (338, [some (.ref 1000004), some (.ref 0), some (.ref 30), some (.ref 47), some (.int 0), none, none], [.ref 47, .int (xs 3), .int (xs 2), .int (xs 1), .ref 0], (mm_fw2 (.inr (10, mm_fw2f30 (.int 0))) (.inl (.long, 1, .inr (.inl (fun _ => 0)))) []))) 17 3000 rfl ?_
  refine mm_xcl (v := (some (.int 1))) (w1 := (mm_fw2 (.inr (10, mm_fw2f30 (.int 0))) (.inl (.long, 1, .inr (.inl (fun _ => 0)))) [.inr (13, [])])) rfl ?_ ?_
  · skip
    refine mm_xk (S' := (7, [some (.ref 0), some (.int (xs 1)), some (.int (xs 2)), some (.int (xs 3)), some (.ref 47), none], [.int (xs 3), .int (xs 2), .int (xs 1), .ref 0, .int 0, .ref 47], (mm_fw2 (.inr (10, mm_fw2f30 (.int 0))) (.inl (.long, 1, .inr (.inl (fun _ => 0)))) []))) 6 3000 rfl ?_
    refine mm_xct (x := 13) (hp := 15) (w1 := (mm_fw2 (.inr (10, mm_fw2f30 (.int 0))) (.inl (.long, 1, .inr (.inl (fun _ => 0)))) [.inr (13, [])])) rfl ?_ rfl ?_
    · skip
      refine mm_xk (S' := (7, [some (.ref 0), some (.int (xs 1)), some (.int (xs 2)), some (.int (xs 3))], [.int (xs 3), .int (xs 2), .int (xs 1), .ref 1], (mm_fw2 (.inr (10, mm_fw2f30 (.int 0))) (.inl (.long, 1, .inr (.inl (fun _ => 0)))) []))) 5 3000 rfl ?_
      refine mm_xcl (v := (some (.int 0))) (w1 := (mm_fw2 (.inr (10, mm_fw2f30 (.int 0))) (.inl (.long, 1, .inr (.inl (fun _ => 0)))) [])) rfl ?_ ?_
      · skip
        refine mm_xk (S' := (1, [some (.ref 1), some (.int (xs 1)), some (.int (xs 2)), some (.int (xs 3))], [.int (xs 1)], (mm_fw2 (.inr (10, mm_fw2f30 (.int 0))) (.inl (.long, 1, .inr (.inl (fun _ => 0)))) []))) 1 3000 rfl ?_
        refine mm_xif1 rfl false (mm_lt0 (a := (xs 1).toInt) (b := 0) rfl rfl (by omega)) rfl ?_
        refine mm_xk (S' := (9, [some (.ref 1), some (.int (xs 1)), some (.int (xs 2)), some (.int (xs 3))], [.int 1, .int (xs 1)], (mm_fw2 (.inr (10, mm_fw2f30 (.int 0))) (.inl (.long, 1, .inr (.inl (fun _ => 0)))) []))) 3 3000 rfl ?_
        refine mm_xif2 rfl false (mm_ge0 (a := (xs 1).toInt) (b := 1) rfl rfl (by omega)) rfl ?_
        refine mm_xk (S' := (13, [some (.ref 1), some (.int (xs 1)), some (.int (xs 2)), some (.int (xs 3))], [.int (xs 2)], (mm_fw2 (.inr (10, mm_fw2f30 (.int 0))) (.inl (.long, 1, .inr (.inl (fun _ => 0)))) []))) 1 3000 rfl ?_
        refine mm_xif1 rfl true (mm_lt1 (a := (xs 2).toInt) (b := 0) rfl rfl (by omega)) rfl ?_
        refine mm_xk (S' := (41, [some (.ref 1), some (.int (xs 1)), some (.int (xs 2)), some (.int (xs 3))], [.int 0], (mm_fw2 (.inr (10, mm_fw2f30 (.int 0))) (.inl (.long, 1, .inr (.inl (fun _ => 0)))) []))) 1 3000 rfl ?_
        exact mm_xfn rfl
      refine mm_xk (S' := (13, [some (.ref 0), some (.int (xs 1)), some (.int (xs 2)), some (.int (xs 3))], [], (mm_fw2 (.inr (10, mm_fw2f30 (.int 0))) (.inl (.long, 1, .inr (.inl (fun _ => 0)))) []))) 1 3000 rfl ?_
      exact mm_xfn rfl
    refine mm_xk (S' := (18, [some (.ref 0), some (.int (xs 1)), some (.int (xs 2)), some (.int (xs 3)), some (.ref 47), some (.ref 48)], [.int 1], (mm_fw2 (.inr (10, mm_fw2f30 (.int 0))) (.inl (.long, 1, .inr (.inl (fun _ => 0)))) [.inr (13, [])]))) 2 3000 rfl ?_
    exact mm_xfn rfl
  refine mm_xk (S' := (362, [some (.ref 1000004), some (.ref 0), some (.ref 30), some (.ref 47), some (.int 0), some (.int 1), none], [.int (xs 3), .int (xs 2), .int (xs 1), .ref 30], (mm_fw2 (.inr (10, mm_fw2f30 (.int 0))) (.inl (.long, 1, .inr (.inl (fun _ => 0)))) [.inr (13, [])]))) 17 3000 rfl ?_
  refine mm_xcl (v := (some (.int 0))) (w1 := (mm_fw2 (.inr (10, mm_fw2f30 (.int 1))) (.inl (.long, 1, .inr (.inl (fun _ => 0)))) [.inr (13, [])])) rfl ?_ ?_
  · skip
    refine mm_xk (S' := (2, [some (.ref 30), some (.int (xs 1)), some (.int (xs 2)), some (.int (xs 3))], [.int (xs 1), .ref 30], (mm_fw2 (.inr (10, mm_fw2f30 (.int 0))) (.inl (.long, 1, .inr (.inl (fun _ => 0)))) [.inr (13, [])]))) 2 3000 rfl ?_
    refine mm_xif1 rfl false (mm_lt0 (a := (xs 1).toInt) (b := 0) rfl rfl (by omega)) rfl ?_
    refine mm_xk (S' := (10, [some (.ref 30), some (.int (xs 1)), some (.int (xs 2)), some (.int (xs 3))], [.int 1, .int (xs 1), .ref 30], (mm_fw2 (.inr (10, mm_fw2f30 (.int 0))) (.inl (.long, 1, .inr (.inl (fun _ => 0)))) [.inr (13, [])]))) 3 3000 rfl ?_
    refine mm_xif2 rfl false (mm_ge0 (a := (xs 1).toInt) (b := 1) rfl rfl (by omega)) rfl ?_
    refine mm_xk (S' := (14, [some (.ref 30), some (.int (xs 1)), some (.int (xs 2)), some (.int (xs 3))], [.int (xs 2), .ref 30], (mm_fw2 (.inr (10, mm_fw2f30 (.int 0))) (.inl (.long, 1, .inr (.inl (fun _ => 0)))) [.inr (13, [])]))) 1 3000 rfl ?_
    refine mm_xif1 rfl true (mm_lt1 (a := (xs 2).toInt) (b := 0) rfl rfl (by omega)) rfl ?_
    refine mm_xk (S' := (45, [some (.ref 30), some (.int (xs 1)), some (.int (xs 2)), some (.int (xs 3))], [], (mm_fw2 (.inr (10, mm_fw2f30 (.int 1))) (.inl (.long, 1, .inr (.inl (fun _ => 0)))) [.inr (13, [])]))) 2 3000 rfl ?_
    refine mm_xk (S' := (73, [some (.ref 30), some (.int (xs 1)), some (.int (xs 2)), some (.int (xs 3))], [.int 0], (mm_fw2 (.inr (10, mm_fw2f30 (.int 1))) (.inl (.long, 1, .inr (.inl (fun _ => 0)))) [.inr (13, [])]))) 5 3000 rfl ?_
    exact mm_xfn rfl
  refine mm_xk (S' := (1092, [some (.ref 1000004), some (.ref 0), some (.ref 30), some (.ref 47), some (.int 9), some (.int 1), some (.int 0)], [], (mm_fw2 (.inr (10, mm_fw2f30 (.int 1))) (.inl (.long, 1, .inr (.inl (fun _ => 0)))) [.inr (13, [])]))) 9 3000 rfl ?_
  refine mm_xk (S' := (1096, [some (.ref 1000004), some (.ref 0), some (.ref 30), some (.ref 47), some (.int 9), some (.int 1), some (.int 0)], [.int 1], (mm_fw2 (.inr (10, mm_fw2f30 (.int 1))) (.inl (.long, 1, .inr (.inl (fun _ => 0)))) [.inr (13, [])]))) 8 3000 rfl ?_
  exact mm_xfn rfl
set_option maxRecDepth 100000 in
set_option maxHeartbeats 4000000 in
theorem mm_lf2_6 (xs : Nat → Int32) (u1 : (xs 1).toInt ≤ -1) : mm_Ok xs 318 := by
  refine mm_Ok_of (w' := ((mm_w0.set 30 (.inr (10, (mm_f30.set 0 (.int 1))))) ++ [.inr (13, [])])) (mm_szP 6 (mm_szS 63 mm_sz0 rfl) rfl) rfl rfl ?_
  refine mm_xk (S' := (338, [some (.ref 1000004), some (.ref 0), some (.ref 30), some (.ref 47), some (.int 0), none, none], [.ref 47, .int (xs 3), .int (xs 2), .int (xs 1), .ref 0], (mm_fw2 (.inr (10, mm_fw2f30 (.int 0))) (.inl (.long, 1, .inr (.inl (fun _ => 0)))) []))) 17 3000 rfl ?_
  refine mm_xcl (v := (some (.int 1))) (w1 := (mm_fw2 (.inr (10, mm_fw2f30 (.int 0))) (.inl (.long, 1, .inr (.inl (fun _ => 0)))) [.inr (13, [])])) rfl ?_ ?_
  · skip
    refine mm_xk (S' := (7, [some (.ref 0), some (.int (xs 1)), some (.int (xs 2)), some (.int (xs 3)), some (.ref 47), none], [.int (xs 3), .int (xs 2), .int (xs 1), .ref 0, .int 0, .ref 47], (mm_fw2 (.inr (10, mm_fw2f30 (.int 0))) (.inl (.long, 1, .inr (.inl (fun _ => 0)))) []))) 6 3000 rfl ?_
    refine mm_xct (x := 13) (hp := 15) (w1 := (mm_fw2 (.inr (10, mm_fw2f30 (.int 0))) (.inl (.long, 1, .inr (.inl (fun _ => 0)))) [.inr (13, [])])) rfl ?_ rfl ?_
    · skip
      refine mm_xk (S' := (7, [some (.ref 0), some (.int (xs 1)), some (.int (xs 2)), some (.int (xs 3))], [.int (xs 3), .int (xs 2), .int (xs 1), .ref 1], (mm_fw2 (.inr (10, mm_fw2f30 (.int 0))) (.inl (.long, 1, .inr (.inl (fun _ => 0)))) []))) 5 3000 rfl ?_
      refine mm_xcl (v := (some (.int 0))) (w1 := (mm_fw2 (.inr (10, mm_fw2f30 (.int 0))) (.inl (.long, 1, .inr (.inl (fun _ => 0)))) [])) rfl ?_ ?_
      · skip
        refine mm_xk (S' := (1, [some (.ref 1), some (.int (xs 1)), some (.int (xs 2)), some (.int (xs 3))], [.int (xs 1)], (mm_fw2 (.inr (10, mm_fw2f30 (.int 0))) (.inl (.long, 1, .inr (.inl (fun _ => 0)))) []))) 1 3000 rfl ?_
        refine mm_xif1 rfl true (mm_lt1 (a := (xs 1).toInt) (b := 0) rfl rfl (by omega)) rfl ?_
        refine mm_xk (S' := (41, [some (.ref 1), some (.int (xs 1)), some (.int (xs 2)), some (.int (xs 3))], [.int 0], (mm_fw2 (.inr (10, mm_fw2f30 (.int 0))) (.inl (.long, 1, .inr (.inl (fun _ => 0)))) []))) 1 3000 rfl ?_
        exact mm_xfn rfl
      refine mm_xk (S' := (13, [some (.ref 0), some (.int (xs 1)), some (.int (xs 2)), some (.int (xs 3))], [], (mm_fw2 (.inr (10, mm_fw2f30 (.int 0))) (.inl (.long, 1, .inr (.inl (fun _ => 0)))) []))) 1 3000 rfl ?_
      exact mm_xfn rfl
    refine mm_xk (S' := (18, [some (.ref 0), some (.int (xs 1)), some (.int (xs 2)), some (.int (xs 3)), some (.ref 47), some (.ref 48)], [.int 1], (mm_fw2 (.inr (10, mm_fw2f30 (.int 0))) (.inl (.long, 1, .inr (.inl (fun _ => 0)))) [.inr (13, [])]))) 2 3000 rfl ?_
    exact mm_xfn rfl
  refine mm_xk (S' := (362, [some (.ref 1000004), some (.ref 0), some (.ref 30), some (.ref 47), some (.int 0), some (.int 1), none], [.int (xs 3), .int (xs 2), .int (xs 1), .ref 30], (mm_fw2 (.inr (10, mm_fw2f30 (.int 0))) (.inl (.long, 1, .inr (.inl (fun _ => 0)))) [.inr (13, [])]))) 17 3000 rfl ?_
  refine mm_xcl (v := (some (.int 0))) (w1 := (mm_fw2 (.inr (10, mm_fw2f30 (.int 1))) (.inl (.long, 1, .inr (.inl (fun _ => 0)))) [.inr (13, [])])) rfl ?_ ?_
  · skip
    refine mm_xk (S' := (2, [some (.ref 30), some (.int (xs 1)), some (.int (xs 2)), some (.int (xs 3))], [.int (xs 1), .ref 30], (mm_fw2 (.inr (10, mm_fw2f30 (.int 0))) (.inl (.long, 1, .inr (.inl (fun _ => 0)))) [.inr (13, [])]))) 2 3000 rfl ?_
    refine mm_xif1 rfl true (mm_lt1 (a := (xs 1).toInt) (b := 0) rfl rfl (by omega)) rfl ?_
    refine mm_xk (S' := (45, [some (.ref 30), some (.int (xs 1)), some (.int (xs 2)), some (.int (xs 3))], [], (mm_fw2 (.inr (10, mm_fw2f30 (.int 1))) (.inl (.long, 1, .inr (.inl (fun _ => 0)))) [.inr (13, [])]))) 2 3000 rfl ?_
    refine mm_xk (S' := (73, [some (.ref 30), some (.int (xs 1)), some (.int (xs 2)), some (.int (xs 3))], [.int 0], (mm_fw2 (.inr (10, mm_fw2f30 (.int 1))) (.inl (.long, 1, .inr (.inl (fun _ => 0)))) [.inr (13, [])]))) 5 3000 rfl ?_
    exact mm_xfn rfl
  refine mm_xk (S' := (1092, [some (.ref 1000004), some (.ref 0), some (.ref 30), some (.ref 47), some (.int 9), some (.int 1), some (.int 0)], [], (mm_fw2 (.inr (10, mm_fw2f30 (.int 1))) (.inl (.long, 1, .inr (.inl (fun _ => 0)))) [.inr (13, [])]))) 9 3000 rfl ?_
  refine mm_xk (S' := (1096, [some (.ref 1000004), some (.ref 0), some (.ref 30), some (.ref 47), some (.int 9), some (.int 1), some (.int 0)], [.int 1], (mm_fw2 (.inr (10, mm_fw2f30 (.int 1))) (.inl (.long, 1, .inr (.inl (fun _ => 0)))) [.inr (13, [])]))) 8 3000 rfl ?_
  exact mm_xfn rfl
