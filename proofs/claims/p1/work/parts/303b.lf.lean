set_option maxRecDepth 100000 in
set_option maxHeartbeats 4000000 in
theorem mm_lf3_6 (xs : Nat → Int32) (l1 : 0 ≤ (xs 1).toInt) (u1 : (xs 1).toInt ≤ 255) (l2 : 0 ≤ (xs 2).toInt) (u2 : (xs 2).toInt ≤ 65535) (l3 : 0 ≤ (xs 3).toInt) (u3 : (xs 3).toInt ≤ 65535) (l4 : 0 ≤ (xs 4).toInt) (u4 : (xs 4).toInt ≤ 65535) (l5 : 0 ≤ (xs 5).toInt) (u5 : (xs 5).toInt ≤ 65535) : mm_Ok xs 398 := by
  refine mm_Ok_of (w' := (((mm_w0.set 3 (.inl (.int, 5, .inl (upd (upd (upd (upd (upd (fun _ => 0) 0 (xs 1)) 1 (xs 2)) 2 (xs 3)) 3 (xs 4)) 4 (xs 5))))).set 30 (.inr (10, mm_f30))).set 32 (.inl (.int, 5, .inl (upd (upd (upd (upd (upd (fun _ => 0) 0 (xs 1)) 1 (xs 2)) 2 (xs 3)) 3 (xs 4)) 4 (xs 5)))))) (mm_szS 5 (mm_szS 63 (mm_szS 5 mm_sz0 rfl) rfl) rfl) rfl rfl ?_
  refine mm_xk (S' := (429, [some (.ref 1000004), some (.ref 0), some (.ref 30), some (.ref 47), some (.int 0), none, none], [.int (xs 5), .int (xs 4), .int (xs 3), .int (xs 2), .int (xs 1), .ref 0], (mm_fw3 (mm_zi 5) (.inr (10, mm_fw3f30 (.int 0))) (mm_zi 5) []))) 26 3000 rfl ?_
  refine mm_xcl (v := (some (.int 0))) (w1 := (mm_fw3 (.inl (.int, 5, .inl (upd (upd (upd (upd (upd (fun _ => 0) 0 (xs 1)) 1 (xs 2)) 2 (xs 3)) 3 (xs 4)) 4 (xs 5)))) (.inr (10, mm_fw3f30 (.int 0))) (mm_zi 5) [])) rfl ?_ ?_
  · skip
    refine mm_xk (S' := (8, [some (.ref 0), some (.int (xs 1)), some (.int (xs 2)), some (.int (xs 3)), some (.int (xs 4)), some (.int (xs 5)), none], [.int (xs 5), .int (xs 4), .int (xs 3), .int (xs 2), .int (xs 1), .ref 0], (mm_fw3 (mm_zi 5) (.inr (10, mm_fw3f30 (.int 0))) (mm_zi 5) []))) 6 3000 rfl ?_
    refine mm_xcl (v := none) (w1 := (mm_fw3 (.inl (.int, 5, .inl (upd (upd (upd (upd (upd (fun _ => 0) 0 (xs 1)) 1 (xs 2)) 2 (xs 3)) 3 (xs 4)) 4 (xs 5)))) (.inr (10, mm_fw3f30 (.int 0))) (mm_zi 5) [])) rfl ?_ ?_
    · skip
      refine mm_xk (S' := (1, [some (.ref 0), some (.int (xs 1)), some (.int (xs 2)), some (.int (xs 3)), some (.int (xs 4)), some (.int (xs 5))], [.int (xs 1)], (mm_fw3 (mm_zi 5) (.inr (10, mm_fw3f30 (.int 0))) (mm_zi 5) []))) 1 3000 rfl ?_
      refine mm_xcl (v := (some (.int 1))) (w1 := (mm_fw3 (mm_zi 5) (.inr (10, mm_fw3f30 (.int 0))) (mm_zi 5) [])) rfl ?_ ?_
      · skip
        refine mm_xk (S' := (1, [some (.int (xs 1))], [.int (xs 1)], (mm_fw3 (mm_zi 5) (.inr (10, mm_fw3f30 (.int 0))) (mm_zi 5) []))) 1 3000 rfl ?_
        refine mm_xif1 rfl false (mm_lt0 (a := (xs 1).toInt) (b := 0) rfl rfl (by omega)) rfl ?_
        refine mm_xk (S' := (7, [some (.int (xs 1))], [.int 65535, .int (xs 1)], (mm_fw3 (mm_zi 5) (.inr (10, mm_fw3f30 (.int 0))) (mm_zi 5) []))) 2 3000 rfl ?_
        refine mm_xif2 rfl false (mm_gt0 (a := (xs 1).toInt) (b := 65535) rfl rfl (by omega)) rfl ?_
        refine mm_xk (S' := (15, [some (.int (xs 1))], [.int 1], (mm_fw3 (mm_zi 5) (.inr (10, mm_fw3f30 (.int 0))) (mm_zi 5) []))) 2 3000 rfl ?_
        exact mm_xfn rfl
      refine mm_xk (S' := (8, [some (.ref 0), some (.int (xs 1)), some (.int (xs 2)), some (.int (xs 3)), some (.int (xs 4)), some (.int (xs 5))], [.int (xs 2)], (mm_fw3 (mm_zi 5) (.inr (10, mm_fw3f30 (.int 0))) (mm_zi 5) []))) 2 3000 rfl ?_
      refine mm_xcl (v := (some (.int 1))) (w1 := (mm_fw3 (mm_zi 5) (.inr (10, mm_fw3f30 (.int 0))) (mm_zi 5) [])) rfl ?_ ?_
      · skip
        refine mm_xk (S' := (1, [some (.int (xs 2))], [.int (xs 2)], (mm_fw3 (mm_zi 5) (.inr (10, mm_fw3f30 (.int 0))) (mm_zi 5) []))) 1 3000 rfl ?_
        refine mm_xif1 rfl false (mm_lt0 (a := (xs 2).toInt) (b := 0) rfl rfl (by omega)) rfl ?_
        refine mm_xk (S' := (7, [some (.int (xs 2))], [.int 65535, .int (xs 2)], (mm_fw3 (mm_zi 5) (.inr (10, mm_fw3f30 (.int 0))) (mm_zi 5) []))) 2 3000 rfl ?_
        refine mm_xif2 rfl false (mm_gt0 (a := (xs 2).toInt) (b := 65535) rfl rfl (by omega)) rfl ?_
        refine mm_xk (S' := (15, [some (.int (xs 2))], [.int 1], (mm_fw3 (mm_zi 5) (.inr (10, mm_fw3f30 (.int 0))) (mm_zi 5) []))) 2 3000 rfl ?_
        exact mm_xfn rfl
      refine mm_xk (S' := (15, [some (.ref 0), some (.int (xs 1)), some (.int (xs 2)), some (.int (xs 3)), some (.int (xs 4)), some (.int (xs 5))], [.int (xs 3)], (mm_fw3 (mm_zi 5) (.inr (10, mm_fw3f30 (.int 0))) (mm_zi 5) []))) 2 3000 rfl ?_
      refine mm_xcl (v := (some (.int 1))) (w1 := (mm_fw3 (mm_zi 5) (.inr (10, mm_fw3f30 (.int 0))) (mm_zi 5) [])) rfl ?_ ?_
      · skip
        refine mm_xk (S' := (1, [some (.int (xs 3))], [.int (xs 3)], (mm_fw3 (mm_zi 5) (.inr (10, mm_fw3f30 (.int 0))) (mm_zi 5) []))) 1 3000 rfl ?_
        refine mm_xif1 rfl false (mm_lt0 (a := (xs 3).toInt) (b := 0) rfl rfl (by omega)) rfl ?_
        refine mm_xk (S' := (7, [some (.int (xs 3))], [.int 65535, .int (xs 3)], (mm_fw3 (mm_zi 5) (.inr (10, mm_fw3f30 (.int 0))) (mm_zi 5) []))) 2 3000 rfl ?_
        refine mm_xif2 rfl false (mm_gt0 (a := (xs 3).toInt) (b := 65535) rfl rfl (by omega)) rfl ?_
        refine mm_xk (S' := (15, [some (.int (xs 3))], [.int 1], (mm_fw3 (mm_zi 5) (.inr (10, mm_fw3f30 (.int 0))) (mm_zi 5) []))) 2 3000 rfl ?_
        exact mm_xfn rfl
      refine mm_xk (S' := (23, [some (.ref 0), some (.int (xs 1)), some (.int (xs 2)), some (.int (xs 3)), some (.int (xs 4)), some (.int (xs 5))], [.int (xs 4)], (mm_fw3 (mm_zi 5) (.inr (10, mm_fw3f30 (.int 0))) (mm_zi 5) []))) 2 3000 rfl ?_
      refine mm_xcl (v := (some (.int 1))) (w1 := (mm_fw3 (mm_zi 5) (.inr (10, mm_fw3f30 (.int 0))) (mm_zi 5) [])) rfl ?_ ?_
      · skip
        refine mm_xk (S' := (1, [some (.int (xs 4))], [.int (xs 4)], (mm_fw3 (mm_zi 5) (.inr (10, mm_fw3f30 (.int 0))) (mm_zi 5) []))) 1 3000 rfl ?_
        refine mm_xif1 rfl false (mm_lt0 (a := (xs 4).toInt) (b := 0) rfl rfl (by omega)) rfl ?_
        refine mm_xk (S' := (7, [some (.int (xs 4))], [.int 65535, .int (xs 4)], (mm_fw3 (mm_zi 5) (.inr (10, mm_fw3f30 (.int 0))) (mm_zi 5) []))) 2 3000 rfl ?_
        refine mm_xif2 rfl false (mm_gt0 (a := (xs 4).toInt) (b := 65535) rfl rfl (by omega)) rfl ?_
        refine mm_xk (S' := (15, [some (.int (xs 4))], [.int 1], (mm_fw3 (mm_zi 5) (.inr (10, mm_fw3f30 (.int 0))) (mm_zi 5) []))) 2 3000 rfl ?_
        exact mm_xfn rfl
      refine mm_xk (S' := (31, [some (.ref 0), some (.int (xs 1)), some (.int (xs 2)), some (.int (xs 3)), some (.int (xs 4)), some (.int (xs 5))], [.int (xs 5)], (mm_fw3 (mm_zi 5) (.inr (10, mm_fw3f30 (.int 0))) (mm_zi 5) []))) 2 3000 rfl ?_
      refine mm_xcl (v := (some (.int 1))) (w1 := (mm_fw3 (mm_zi 5) (.inr (10, mm_fw3f30 (.int 0))) (mm_zi 5) [])) rfl ?_ ?_
      · skip
        refine mm_xk (S' := (1, [some (.int (xs 5))], [.int (xs 5)], (mm_fw3 (mm_zi 5) (.inr (10, mm_fw3f30 (.int 0))) (mm_zi 5) []))) 1 3000 rfl ?_
        refine mm_xif1 rfl false (mm_lt0 (a := (xs 5).toInt) (b := 0) rfl rfl (by omega)) rfl ?_
        refine mm_xk (S' := (7, [some (.int (xs 5))], [.int 65535, .int (xs 5)], (mm_fw3 (mm_zi 5) (.inr (10, mm_fw3f30 (.int 0))) (mm_zi 5) []))) 2 3000 rfl ?_
        refine mm_xif2 rfl false (mm_gt0 (a := (xs 5).toInt) (b := 65535) rfl rfl (by omega)) rfl ?_
        refine mm_xk (S' := (15, [some (.int (xs 5))], [.int 1], (mm_fw3 (mm_zi 5) (.inr (10, mm_fw3f30 (.int 0))) (mm_zi 5) []))) 2 3000 rfl ?_
        exact mm_xfn rfl
      refine mm_xk (S' := (45, [some (.ref 0), some (.int (xs 1)), some (.int (xs 2)), some (.int (xs 3)), some (.int (xs 4)), some (.int (xs 5))], [.int 255, .int (xs 1)], (mm_fw3 (mm_zi 5) (.inr (10, mm_fw3f30 (.int 0))) (mm_zi 5) []))) 5 3000 rfl ?_
      refine mm_xif2 rfl true (mm_le1 (a := (xs 1).toInt) (b := 255) rfl rfl (by omega)) rfl ?_
      refine mm_xk (S' := (93, [some (.ref 0), some (.int (xs 1)), some (.int (xs 2)), some (.int (xs 3)), some (.int (xs 4)), some (.int (xs 5))], [], (mm_fw3 (.inl (.int, 5, .inl (upd (upd (upd (upd (upd (fun _ => 0) 0 (xs 1)) 1 (xs 2)) 2 (xs 3)) 3 (xs 4)) 4 (xs 5)))) (.inr (10, mm_fw3f30 (.int 0))) (mm_zi 5) []))) 25 3000 rfl ?_
      exact mm_xfn rfl
    refine mm_xk (S' := (19, [some (.ref 0), some (.int (xs 1)), some (.int (xs 2)), some (.int (xs 3)), some (.int (xs 4)), some (.int (xs 5)), none], [.int 0], (mm_fw3 (.inl (.int, 5, .inl (upd (upd (upd (upd (upd (fun _ => 0) 0 (xs 1)) 1 (xs 2)) 2 (xs 3)) 3 (xs 4)) 4 (xs 5)))) (.inr (10, mm_fw3f30 (.int 0))) (mm_zi 5) []))) 2 3000 rfl ?_
    exact mm_xfn rfl
  refine mm_xk (S' := (465, [some (.ref 1000004), some (.ref 0), some (.ref 30), some (.ref 47), some (.int 0), some (.int 0), none], [.int (xs 5), .int (xs 4), .int (xs 3), .int (xs 2), .int (xs 1), .ref 30], (mm_fw3 (.inl (.int, 5, .inl (upd (upd (upd (upd (upd (fun _ => 0) 0 (xs 1)) 1 (xs 2)) 2 (xs 3)) 3 (xs 4)) 4 (xs 5)))) (.inr (10, mm_fw3f30 (.int 0))) (mm_zi 5) []))) 27 3000 rfl ?_
  refine mm_xcl (v := none) (w1 := (mm_fw3 (.inl (.int, 5, .inl (upd (upd (upd (upd (upd (fun _ => 0) 0 (xs 1)) 1 (xs 2)) 2 (xs 3)) 3 (xs 4)) 4 (xs 5)))) (.inr (10, mm_fw3f30 (.int 0))) (.inl (.int, 5, .inl (upd (upd (upd (upd (upd (fun _ => 0) 0 (xs 1)) 1 (xs 2)) 2 (xs 3)) 3 (xs 4)) 4 (xs 5)))) [])) rfl ?_ ?_
  · skip
    refine mm_xk (S' := (4, [some (.ref 30), some (.int (xs 1)), some (.int (xs 2)), some (.int (xs 3)), some (.int (xs 4)), some (.int (xs 5)), none], [.int 65535, .int 0, .int (xs 1)], (mm_fw3 (.inl (.int, 5, .inl (upd (upd (upd (upd (upd (fun _ => 0) 0 (xs 1)) 1 (xs 2)) 2 (xs 3)) 3 (xs 4)) 4 (xs 5)))) (.inr (10, mm_fw3f30 (.int 0))) (mm_zi 5) []))) 3 3000 rfl ?_
    refine mm_xcl (v := (some (.int 1))) (w1 := (mm_fw3 (.inl (.int, 5, .inl (upd (upd (upd (upd (upd (fun _ => 0) 0 (xs 1)) 1 (xs 2)) 2 (xs 3)) 3 (xs 4)) 4 (xs 5)))) (.inr (10, mm_fw3f30 (.int 0))) (mm_zi 5) [])) rfl ?_ ?_
    · skip
      refine mm_xk (S' := (2, [some (.int (xs 1)), some (.int 0), some (.int 65535)], [.int 0, .int (xs 1)], (mm_fw3 (.inl (.int, 5, .inl (upd (upd (upd (upd (upd (fun _ => 0) 0 (xs 1)) 1 (xs 2)) 2 (xs 3)) 3 (xs 4)) 4 (xs 5)))) (.inr (10, mm_fw3f30 (.int 0))) (mm_zi 5) []))) 2 3000 rfl ?_
      refine mm_xif2 rfl false (mm_lt0 (a := (xs 1).toInt) (b := 0) rfl rfl (by omega)) rfl ?_
      refine mm_xk (S' := (7, [some (.int (xs 1)), some (.int 0), some (.int 65535)], [.int 65535, .int (xs 1)], (mm_fw3 (.inl (.int, 5, .inl (upd (upd (upd (upd (upd (fun _ => 0) 0 (xs 1)) 1 (xs 2)) 2 (xs 3)) 3 (xs 4)) 4 (xs 5)))) (.inr (10, mm_fw3f30 (.int 0))) (mm_zi 5) []))) 2 3000 rfl ?_
      refine mm_xif2 rfl false (mm_gt0 (a := (xs 1).toInt) (b := 65535) rfl rfl (by omega)) rfl ?_
      refine mm_xk (S' := (15, [some (.int (xs 1)), some (.int 0), some (.int 65535)], [.int 1], (mm_fw3 (.inl (.int, 5, .inl (upd (upd (upd (upd (upd (fun _ => 0) 0 (xs 1)) 1 (xs 2)) 2 (xs 3)) 3 (xs 4)) 4 (xs 5)))) (.inr (10, mm_fw3f30 (.int 0))) (mm_zi 5) []))) 2 3000 rfl ?_
      exact mm_xfn rfl
    refine mm_xk (S' := (14, [some (.ref 30), some (.int (xs 1)), some (.int (xs 2)), some (.int (xs 3)), some (.int (xs 4)), some (.int (xs 5)), none], [.int 65535, .int 0, .int (xs 2)], (mm_fw3 (.inl (.int, 5, .inl (upd (upd (upd (upd (upd (fun _ => 0) 0 (xs 1)) 1 (xs 2)) 2 (xs 3)) 3 (xs 4)) 4 (xs 5)))) (.inr (10, mm_fw3f30 (.int 0))) (mm_zi 5) []))) 4 3000 rfl ?_
    refine mm_xcl (v := (some (.int 1))) (w1 := (mm_fw3 (.inl (.int, 5, .inl (upd (upd (upd (upd (upd (fun _ => 0) 0 (xs 1)) 1 (xs 2)) 2 (xs 3)) 3 (xs 4)) 4 (xs 5)))) (.inr (10, mm_fw3f30 (.int 0))) (mm_zi 5) [])) rfl ?_ ?_
    · skip
      refine mm_xk (S' := (2, [some (.int (xs 2)), some (.int 0), some (.int 65535)], [.int 0, .int (xs 2)], (mm_fw3 (.inl (.int, 5, .inl (upd (upd (upd (upd (upd (fun _ => 0) 0 (xs 1)) 1 (xs 2)) 2 (xs 3)) 3 (xs 4)) 4 (xs 5)))) (.inr (10, mm_fw3f30 (.int 0))) (mm_zi 5) []))) 2 3000 rfl ?_
      refine mm_xif2 rfl false (mm_lt0 (a := (xs 2).toInt) (b := 0) rfl rfl (by omega)) rfl ?_
      refine mm_xk (S' := (7, [some (.int (xs 2)), some (.int 0), some (.int 65535)], [.int 65535, .int (xs 2)], (mm_fw3 (.inl (.int, 5, .inl (upd (upd (upd (upd (upd (fun _ => 0) 0 (xs 1)) 1 (xs 2)) 2 (xs 3)) 3 (xs 4)) 4 (xs 5)))) (.inr (10, mm_fw3f30 (.int 0))) (mm_zi 5) []))) 2 3000 rfl ?_
      refine mm_xif2 rfl false (mm_gt0 (a := (xs 2).toInt) (b := 65535) rfl rfl (by omega)) rfl ?_
      refine mm_xk (S' := (15, [some (.int (xs 2)), some (.int 0), some (.int 65535)], [.int 1], (mm_fw3 (.inl (.int, 5, .inl (upd (upd (upd (upd (upd (fun _ => 0) 0 (xs 1)) 1 (xs 2)) 2 (xs 3)) 3 (xs 4)) 4 (xs 5)))) (.inr (10, mm_fw3f30 (.int 0))) (mm_zi 5) []))) 2 3000 rfl ?_
      exact mm_xfn rfl
    refine mm_xk (S' := (24, [some (.ref 30), some (.int (xs 1)), some (.int (xs 2)), some (.int (xs 3)), some (.int (xs 4)), some (.int (xs 5)), none], [.int 65535, .int 0, .int (xs 3)], (mm_fw3 (.inl (.int, 5, .inl (upd (upd (upd (upd (upd (fun _ => 0) 0 (xs 1)) 1 (xs 2)) 2 (xs 3)) 3 (xs 4)) 4 (xs 5)))) (.inr (10, mm_fw3f30 (.int 0))) (mm_zi 5) []))) 4 3000 rfl ?_
    refine mm_xcl (v := (some (.int 1))) (w1 := (mm_fw3 (.inl (.int, 5, .inl (upd (upd (upd (upd (upd (fun _ => 0) 0 (xs 1)) 1 (xs 2)) 2 (xs 3)) 3 (xs 4)) 4 (xs 5)))) (.inr (10, mm_fw3f30 (.int 0))) (mm_zi 5) [])) rfl ?_ ?_
    · skip
      refine mm_xk (S' := (2, [some (.int (xs 3)), some (.int 0), some (.int 65535)], [.int 0, .int (xs 3)], (mm_fw3 (.inl (.int, 5, .inl (upd (upd (upd (upd (upd (fun _ => 0) 0 (xs 1)) 1 (xs 2)) 2 (xs 3)) 3 (xs 4)) 4 (xs 5)))) (.inr (10, mm_fw3f30 (.int 0))) (mm_zi 5) []))) 2 3000 rfl ?_
      refine mm_xif2 rfl false (mm_lt0 (a := (xs 3).toInt) (b := 0) rfl rfl (by omega)) rfl ?_
      refine mm_xk (S' := (7, [some (.int (xs 3)), some (.int 0), some (.int 65535)], [.int 65535, .int (xs 3)], (mm_fw3 (.inl (.int, 5, .inl (upd (upd (upd (upd (upd (fun _ => 0) 0 (xs 1)) 1 (xs 2)) 2 (xs 3)) 3 (xs 4)) 4 (xs 5)))) (.inr (10, mm_fw3f30 (.int 0))) (mm_zi 5) []))) 2 3000 rfl ?_
      refine mm_xif2 rfl false (mm_gt0 (a := (xs 3).toInt) (b := 65535) rfl rfl (by omega)) rfl ?_
      refine mm_xk (S' := (15, [some (.int (xs 3)), some (.int 0), some (.int 65535)], [.int 1], (mm_fw3 (.inl (.int, 5, .inl (upd (upd (upd (upd (upd (fun _ => 0) 0 (xs 1)) 1 (xs 2)) 2 (xs 3)) 3 (xs 4)) 4 (xs 5)))) (.inr (10, mm_fw3f30 (.int 0))) (mm_zi 5) []))) 2 3000 rfl ?_
      exact mm_xfn rfl
    refine mm_xk (S' := (35, [some (.ref 30), some (.int (xs 1)), some (.int (xs 2)), some (.int (xs 3)), some (.int (xs 4)), some (.int (xs 5)), none], [.int 65535, .int 0, .int (xs 4)], (mm_fw3 (.inl (.int, 5, .inl (upd (upd (upd (upd (upd (fun _ => 0) 0 (xs 1)) 1 (xs 2)) 2 (xs 3)) 3 (xs 4)) 4 (xs 5)))) (.inr (10, mm_fw3f30 (.int 0))) (mm_zi 5) []))) 4 3000 rfl ?_
    refine mm_xcl (v := (some (.int 1))) (w1 := (mm_fw3 (.inl (.int, 5, .inl (upd (upd (upd (upd (upd (fun _ => 0) 0 (xs 1)) 1 (xs 2)) 2 (xs 3)) 3 (xs 4)) 4 (xs 5)))) (.inr (10, mm_fw3f30 (.int 0))) (mm_zi 5) [])) rfl ?_ ?_
    · skip
      refine mm_xk (S' := (2, [some (.int (xs 4)), some (.int 0), some (.int 65535)], [.int 0, .int (xs 4)], (mm_fw3 (.inl (.int, 5, .inl (upd (upd (upd (upd (upd (fun _ => 0) 0 (xs 1)) 1 (xs 2)) 2 (xs 3)) 3 (xs 4)) 4 (xs 5)))) (.inr (10, mm_fw3f30 (.int 0))) (mm_zi 5) []))) 2 3000 rfl ?_
      refine mm_xif2 rfl false (mm_lt0 (a := (xs 4).toInt) (b := 0) rfl rfl (by omega)) rfl ?_
      refine mm_xk (S' := (7, [some (.int (xs 4)), some (.int 0), some (.int 65535)], [.int 65535, .int (xs 4)], (mm_fw3 (.inl (.int, 5, .inl (upd (upd (upd (upd (upd (fun _ => 0) 0 (xs 1)) 1 (xs 2)) 2 (xs 3)) 3 (xs 4)) 4 (xs 5)))) (.inr (10, mm_fw3f30 (.int 0))) (mm_zi 5) []))) 2 3000 rfl ?_
      refine mm_xif2 rfl false (mm_gt0 (a := (xs 4).toInt) (b := 65535) rfl rfl (by omega)) rfl ?_
      refine mm_xk (S' := (15, [some (.int (xs 4)), some (.int 0), some (.int 65535)], [.int 1], (mm_fw3 (.inl (.int, 5, .inl (upd (upd (upd (upd (upd (fun _ => 0) 0 (xs 1)) 1 (xs 2)) 2 (xs 3)) 3 (xs 4)) 4 (xs 5)))) (.inr (10, mm_fw3f30 (.int 0))) (mm_zi 5) []))) 2 3000 rfl ?_
      exact mm_xfn rfl
    refine mm_xk (S' := (46, [some (.ref 30), some (.int (xs 1)), some (.int (xs 2)), some (.int (xs 3)), some (.int (xs 4)), some (.int (xs 5)), none], [.int 65535, .int 0, .int (xs 5)], (mm_fw3 (.inl (.int, 5, .inl (upd (upd (upd (upd (upd (fun _ => 0) 0 (xs 1)) 1 (xs 2)) 2 (xs 3)) 3 (xs 4)) 4 (xs 5)))) (.inr (10, mm_fw3f30 (.int 0))) (mm_zi 5) []))) 4 3000 rfl ?_
    refine mm_xcl (v := (some (.int 1))) (w1 := (mm_fw3 (.inl (.int, 5, .inl (upd (upd (upd (upd (upd (fun _ => 0) 0 (xs 1)) 1 (xs 2)) 2 (xs 3)) 3 (xs 4)) 4 (xs 5)))) (.inr (10, mm_fw3f30 (.int 0))) (mm_zi 5) [])) rfl ?_ ?_
    · skip
      refine mm_xk (S' := (2, [some (.int (xs 5)), some (.int 0), some (.int 65535)], [.int 0, .int (xs 5)], (mm_fw3 (.inl (.int, 5, .inl (upd (upd (upd (upd (upd (fun _ => 0) 0 (xs 1)) 1 (xs 2)) 2 (xs 3)) 3 (xs 4)) 4 (xs 5)))) (.inr (10, mm_fw3f30 (.int 0))) (mm_zi 5) []))) 2 3000 rfl ?_
      refine mm_xif2 rfl false (mm_lt0 (a := (xs 5).toInt) (b := 0) rfl rfl (by omega)) rfl ?_
      refine mm_xk (S' := (7, [some (.int (xs 5)), some (.int 0), some (.int 65535)], [.int 65535, .int (xs 5)], (mm_fw3 (.inl (.int, 5, .inl (upd (upd (upd (upd (upd (fun _ => 0) 0 (xs 1)) 1 (xs 2)) 2 (xs 3)) 3 (xs 4)) 4 (xs 5)))) (.inr (10, mm_fw3f30 (.int 0))) (mm_zi 5) []))) 2 3000 rfl ?_
      refine mm_xif2 rfl false (mm_gt0 (a := (xs 5).toInt) (b := 65535) rfl rfl (by omega)) rfl ?_
      refine mm_xk (S' := (15, [some (.int (xs 5)), some (.int 0), some (.int 65535)], [.int 1], (mm_fw3 (.inl (.int, 5, .inl (upd (upd (upd (upd (upd (fun _ => 0) 0 (xs 1)) 1 (xs 2)) 2 (xs 3)) 3 (xs 4)) 4 (xs 5)))) (.inr (10, mm_fw3f30 (.int 0))) (mm_zi 5) []))) 2 3000 rfl ?_
      exact mm_xfn rfl
    refine mm_xk (S' := (70, [some (.ref 30), some (.int (xs 1)), some (.int (xs 2)), some (.int (xs 3)), some (.int (xs 4)), some (.int (xs 5)), some (.int 1)], [.int 255, .int (xs 1), .ref 30], (mm_fw3 (.inl (.int, 5, .inl (upd (upd (upd (upd (upd (fun _ => 0) 0 (xs 1)) 1 (xs 2)) 2 (xs 3)) 3 (xs 4)) 4 (xs 5)))) (.inr (10, mm_fw3f30 (.int 0))) (mm_zi 5) []))) 10 3000 rfl ?_
    refine mm_xif2 rfl false (mm_gt0 (a := (xs 1).toInt) (b := 255) rfl rfl (by omega)) rfl ?_
    refine mm_xk (S' := (81, [some (.ref 30), some (.int (xs 1)), some (.int (xs 2)), some (.int (xs 3)), some (.int (xs 4)), some (.int (xs 5)), some (.int 1)], [], (mm_fw3 (.inl (.int, 5, .inl (upd (upd (upd (upd (upd (fun _ => 0) 0 (xs 1)) 1 (xs 2)) 2 (xs 3)) 3 (xs 4)) 4 (xs 5)))) (.inr (10, mm_fw3f30 (.int 0))) (mm_zi 5) []))) 3 3000 rfl ?_
    refine mm_xk (S' := (126, [some (.ref 30), some (.int (xs 1)), some (.int (xs 2)), some (.int (xs 3)), some (.int (xs 4)), some (.int (xs 5)), some (.int 1)], [], (mm_fw3 (.inl (.int, 5, .inl (upd (upd (upd (upd (upd (fun _ => 0) 0 (xs 1)) 1 (xs 2)) 2 (xs 3)) 3 (xs 4)) 4 (xs 5)))) (.inr (10, mm_fw3f30 (.int 0))) (.inl (.int, 5, .inl (upd (upd (upd (upd (upd (fun _ => 0) 0 (xs 1)) 1 (xs 2)) 2 (xs 3)) 3 (xs 4)) 4 (xs 5)))) []))) 28 3000 rfl ?_
    exact mm_xfn rfl
  refine mm_xk (S' := (1092, [some (.ref 1000004), some (.ref 0), some (.ref 30), some (.ref 47), some (.int 9), some (.int 0), none], [], (mm_fw3 (.inl (.int, 5, .inl (upd (upd (upd (upd (upd (fun _ => 0) 0 (xs 1)) 1 (xs 2)) 2 (xs 3)) 3 (xs 4)) 4 (xs 5)))) (.inr (10, mm_fw3f30 (.int 0))) (.inl (.int, 5, .inl (upd (upd (upd (upd (upd (fun _ => 0) 0 (xs 1)) 1 (xs 2)) 2 (xs 3)) 3 (xs 4)) 4 (xs 5)))) []))) 6 3000 rfl ?_
  refine mm_xk (S' := (1096, [some (.ref 1000004), some (.ref 0), some (.ref 30), some (.ref 47), some (.int 9), some (.int 0), none], [.int 1], (mm_fw3 (.inl (.int, 5, .inl (upd (upd (upd (upd (upd (fun _ => 0) 0 (xs 1)) 1 (xs 2)) 2 (xs 3)) 3 (xs 4)) 4 (xs 5)))) (.inr (10, mm_fw3f30 (.int 0))) (.inl (.int, 5, .inl (upd (upd (upd (upd (upd (fun _ => 0) 0 (xs 1)) 1 (xs 2)) 2 (xs 3)) 3 (xs 4)) 4 (xs 5)))) []))) 8 3000 rfl ?_
  exact mm_xfn rfl
set_option maxRecDepth 100000 in
set_option maxHeartbeats 4000000 in
theorem mm_lf3_7 (xs : Nat → Int32) (l1 : 0 ≤ (xs 1).toInt) (u1 : (xs 1).toInt ≤ 65535) (l2 : 0 ≤ (xs 2).toInt) (u2 : (xs 2).toInt ≤ 65535) (l3 : 0 ≤ (xs 3).toInt) (u3 : (xs 3).toInt ≤ 65535) (l4 : 0 ≤ (xs 4).toInt) (u4 : (xs 4).toInt ≤ 65535) (u5 : (xs 5).toInt ≤ -1) : mm_Ok xs 398 := by
  refine mm_Ok_of (w' := ((mm_w0.set 30 (.inr (10, (mm_f30.set 0 (.int 1))))) ++ [.inr (11, [])])) (mm_szP 6 (mm_szS 63 mm_sz0 rfl) rfl) rfl rfl ?_
  refine mm_xk (S' := (429, [some (.ref 1000004), some (.ref 0), some (.ref 30), some (.ref 47), some (.int 0), none, none], [.int (xs 5), .int (xs 4), .int (xs 3), .int (xs 2), .int (xs 1), .ref 0], (mm_fw3 (mm_zi 5) (.inr (10, mm_fw3f30 (.int 0))) (mm_zi 5) []))) 26 3000 rfl ?_
  refine mm_xcl (v := (some (.int 1))) (w1 := (mm_fw3 (mm_zi 5) (.inr (10, mm_fw3f30 (.int 0))) (mm_zi 5) [.inr (11, [])])) rfl ?_ ?_
  · skip
    refine mm_xk (S' := (8, [some (.ref 0), some (.int (xs 1)), some (.int (xs 2)), some (.int (xs 3)), some (.int (xs 4)), some (.int (xs 5)), none], [.int (xs 5), .int (xs 4), .int (xs 3), .int (xs 2), .int (xs 1), .ref 0], (mm_fw3 (mm_zi 5) (.inr (10, mm_fw3f30 (.int 0))) (mm_zi 5) []))) 6 3000 rfl ?_
    refine mm_xct (x := 11) (hp := 14) (w1 := (mm_fw3 (mm_zi 5) (.inr (10, mm_fw3f30 (.int 0))) (mm_zi 5) [.inr (11, [])])) rfl ?_ rfl ?_
    · skip
      refine mm_xk (S' := (1, [some (.ref 0), some (.int (xs 1)), some (.int (xs 2)), some (.int (xs 3)), some (.int (xs 4)), some (.int (xs 5))], [.int (xs 1)], (mm_fw3 (mm_zi 5) (.inr (10, mm_fw3f30 (.int 0))) (mm_zi 5) []))) 1 3000 rfl ?_
      refine mm_xcl (v := (some (.int 1))) (w1 := (mm_fw3 (mm_zi 5) (.inr (10, mm_fw3f30 (.int 0))) (mm_zi 5) [])) rfl ?_ ?_
      · skip
        refine mm_xk (S' := (1, [some (.int (xs 1))], [.int (xs 1)], (mm_fw3 (mm_zi 5) (.inr (10, mm_fw3f30 (.int 0))) (mm_zi 5) []))) 1 3000 rfl ?_
        refine mm_xif1 rfl false (mm_lt0 (a := (xs 1).toInt) (b := 0) rfl rfl (by omega)) rfl ?_
        refine mm_xk (S' := (7, [some (.int (xs 1))], [.int 65535, .int (xs 1)], (mm_fw3 (mm_zi 5) (.inr (10, mm_fw3f30 (.int 0))) (mm_zi 5) []))) 2 3000 rfl ?_
        refine mm_xif2 rfl false (mm_gt0 (a := (xs 1).toInt) (b := 65535) rfl rfl (by omega)) rfl ?_
        refine mm_xk (S' := (15, [some (.int (xs 1))], [.int 1], (mm_fw3 (mm_zi 5) (.inr (10, mm_fw3f30 (.int 0))) (mm_zi 5) []))) 2 3000 rfl ?_
        exact mm_xfn rfl
      refine mm_xk (S' := (8, [some (.ref 0), some (.int (xs 1)), some (.int (xs 2)), some (.int (xs 3)), some (.int (xs 4)), some (.int (xs 5))], [.int (xs 2)], (mm_fw3 (mm_zi 5) (.inr (10, mm_fw3f30 (.int 0))) (mm_zi 5) []))) 2 3000 rfl ?_
      refine mm_xcl (v := (some (.int 1))) (w1 := (mm_fw3 (mm_zi 5) (.inr (10, mm_fw3f30 (.int 0))) (mm_zi 5) [])) rfl ?_ ?_
      · skip
        refine mm_xk (S' := (1, [some (.int (xs 2))], [.int (xs 2)], (mm_fw3 (mm_zi 5) (.inr (10, mm_fw3f30 (.int 0))) (mm_zi 5) []))) 1 3000 rfl ?_
        refine mm_xif1 rfl false (mm_lt0 (a := (xs 2).toInt) (b := 0) rfl rfl (by omega)) rfl ?_
        refine mm_xk (S' := (7, [some (.int (xs 2))], [.int 65535, .int (xs 2)], (mm_fw3 (mm_zi 5) (.inr (10, mm_fw3f30 (.int 0))) (mm_zi 5) []))) 2 3000 rfl ?_
        refine mm_xif2 rfl false (mm_gt0 (a := (xs 2).toInt) (b := 65535) rfl rfl (by omega)) rfl ?_
        refine mm_xk (S' := (15, [some (.int (xs 2))], [.int 1], (mm_fw3 (mm_zi 5) (.inr (10, mm_fw3f30 (.int 0))) (mm_zi 5) []))) 2 3000 rfl ?_
        exact mm_xfn rfl
      refine mm_xk (S' := (15, [some (.ref 0), some (.int (xs 1)), some (.int (xs 2)), some (.int (xs 3)), some (.int (xs 4)), some (.int (xs 5))], [.int (xs 3)], (mm_fw3 (mm_zi 5) (.inr (10, mm_fw3f30 (.int 0))) (mm_zi 5) []))) 2 3000 rfl ?_
      refine mm_xcl (v := (some (.int 1))) (w1 := (mm_fw3 (mm_zi 5) (.inr (10, mm_fw3f30 (.int 0))) (mm_zi 5) [])) rfl ?_ ?_
      · skip
        refine mm_xk (S' := (1, [some (.int (xs 3))], [.int (xs 3)], (mm_fw3 (mm_zi 5) (.inr (10, mm_fw3f30 (.int 0))) (mm_zi 5) []))) 1 3000 rfl ?_
        refine mm_xif1 rfl false (mm_lt0 (a := (xs 3).toInt) (b := 0) rfl rfl (by omega)) rfl ?_
        refine mm_xk (S' := (7, [some (.int (xs 3))], [.int 65535, .int (xs 3)], (mm_fw3 (mm_zi 5) (.inr (10, mm_fw3f30 (.int 0))) (mm_zi 5) []))) 2 3000 rfl ?_
        refine mm_xif2 rfl false (mm_gt0 (a := (xs 3).toInt) (b := 65535) rfl rfl (by omega)) rfl ?_
        refine mm_xk (S' := (15, [some (.int (xs 3))], [.int 1], (mm_fw3 (mm_zi 5) (.inr (10, mm_fw3f30 (.int 0))) (mm_zi 5) []))) 2 3000 rfl ?_
        exact mm_xfn rfl
      refine mm_xk (S' := (23, [some (.ref 0), some (.int (xs 1)), some (.int (xs 2)), some (.int (xs 3)), some (.int (xs 4)), some (.int (xs 5))], [.int (xs 4)], (mm_fw3 (mm_zi 5) (.inr (10, mm_fw3f30 (.int 0))) (mm_zi 5) []))) 2 3000 rfl ?_
      refine mm_xcl (v := (some (.int 1))) (w1 := (mm_fw3 (mm_zi 5) (.inr (10, mm_fw3f30 (.int 0))) (mm_zi 5) [])) rfl ?_ ?_
      · skip
        refine mm_xk (S' := (1, [some (.int (xs 4))], [.int (xs 4)], (mm_fw3 (mm_zi 5) (.inr (10, mm_fw3f30 (.int 0))) (mm_zi 5) []))) 1 3000 rfl ?_
        refine mm_xif1 rfl false (mm_lt0 (a := (xs 4).toInt) (b := 0) rfl rfl (by omega)) rfl ?_
        refine mm_xk (S' := (7, [some (.int (xs 4))], [.int 65535, .int (xs 4)], (mm_fw3 (mm_zi 5) (.inr (10, mm_fw3f30 (.int 0))) (mm_zi 5) []))) 2 3000 rfl ?_
        refine mm_xif2 rfl false (mm_gt0 (a := (xs 4).toInt) (b := 65535) rfl rfl (by omega)) rfl ?_
        refine mm_xk (S' := (15, [some (.int (xs 4))], [.int 1], (mm_fw3 (mm_zi 5) (.inr (10, mm_fw3f30 (.int 0))) (mm_zi 5) []))) 2 3000 rfl ?_
        exact mm_xfn rfl
      refine mm_xk (S' := (31, [some (.ref 0), some (.int (xs 1)), some (.int (xs 2)), some (.int (xs 3)), some (.int (xs 4)), some (.int (xs 5))], [.int (xs 5)], (mm_fw3 (mm_zi 5) (.inr (10, mm_fw3f30 (.int 0))) (mm_zi 5) []))) 2 3000 rfl ?_
      refine mm_xcl (v := (some (.int 0))) (w1 := (mm_fw3 (mm_zi 5) (.inr (10, mm_fw3f30 (.int 0))) (mm_zi 5) [])) rfl ?_ ?_
      · skip
        refine mm_xk (S' := (1, [some (.int (xs 5))], [.int (xs 5)], (mm_fw3 (mm_zi 5) (.inr (10, mm_fw3f30 (.int 0))) (mm_zi 5) []))) 1 3000 rfl ?_
        refine mm_xif1 rfl true (mm_lt1 (a := (xs 5).toInt) (b := 0) rfl rfl (by omega)) rfl ?_
        refine mm_xk (S' := (15, [some (.int (xs 5))], [.int 0], (mm_fw3 (mm_zi 5) (.inr (10, mm_fw3f30 (.int 0))) (mm_zi 5) []))) 1 3000 rfl ?_
        exact mm_xfn rfl
      refine mm_xk (S' := (48, [some (.ref 0), some (.int (xs 1)), some (.int (xs 2)), some (.int (xs 3)), some (.int (xs 4)), some (.int (xs 5))], [], (mm_fw3 (mm_zi 5) (.inr (10, mm_fw3f30 (.int 0))) (mm_zi 5) []))) 1 3000 rfl ?_
      exact mm_xfn rfl
    refine mm_xk (S' := (17, [some (.ref 0), some (.int (xs 1)), some (.int (xs 2)), some (.int (xs 3)), some (.int (xs 4)), some (.int (xs 5)), some (.ref 48)], [.int 1], (mm_fw3 (mm_zi 5) (.inr (10, mm_fw3f30 (.int 0))) (mm_zi 5) [.inr (11, [])]))) 2 3000 rfl ?_
    exact mm_xfn rfl
  refine mm_xk (S' := (465, [some (.ref 1000004), some (.ref 0), some (.ref 30), some (.ref 47), some (.int 0), some (.int 1), none], [.int (xs 5), .int (xs 4), .int (xs 3), .int (xs 2), .int (xs 1), .ref 30], (mm_fw3 (mm_zi 5) (.inr (10, mm_fw3f30 (.int 0))) (mm_zi 5) [.inr (11, [])]))) 27 3000 rfl ?_
  refine mm_xcl (v := none) (w1 := (mm_fw3 (mm_zi 5) (.inr (10, mm_fw3f30 (.int 1))) (mm_zi 5) [.inr (11, [])])) rfl ?_ ?_
  · skip
    refine mm_xk (S' := (4, [some (.ref 30), some (.int (xs 1)), some (.int (xs 2)), some (.int (xs 3)), some (.int (xs 4)), some (.int (xs 5)), none], [.int 65535, .int 0, .int (xs 1)], (mm_fw3 (mm_zi 5) (.inr (10, mm_fw3f30 (.int 0))) (mm_zi 5) [.inr (11, [])]))) 3 3000 rfl ?_
    refine mm_xcl (v := (some (.int 1))) (w1 := (mm_fw3 (mm_zi 5) (.inr (10, mm_fw3f30 (.int 0))) (mm_zi 5) [.inr (11, [])])) rfl ?_ ?_
    · skip
      refine mm_xk (S' := (2, [some (.int (xs 1)), some (.int 0), some (.int 65535)], [.int 0, .int (xs 1)], (mm_fw3 (mm_zi 5) (.inr (10, mm_fw3f30 (.int 0))) (mm_zi 5) [.inr (11, [])]))) 2 3000 rfl ?_
      refine mm_xif2 rfl false (mm_lt0 (a := (xs 1).toInt) (b := 0) rfl rfl (by omega)) rfl ?_
      refine mm_xk (S' := (7, [some (.int (xs 1)), some (.int 0), some (.int 65535)], [.int 65535, .int (xs 1)], (mm_fw3 (mm_zi 5) (.inr (10, mm_fw3f30 (.int 0))) (mm_zi 5) [.inr (11, [])]))) 2 3000 rfl ?_
      refine mm_xif2 rfl false (mm_gt0 (a := (xs 1).toInt) (b := 65535) rfl rfl (by omega)) rfl ?_
      refine mm_xk (S' := (15, [some (.int (xs 1)), some (.int 0), some (.int 65535)], [.int 1], (mm_fw3 (mm_zi 5) (.inr (10, mm_fw3f30 (.int 0))) (mm_zi 5) [.inr (11, [])]))) 2 3000 rfl ?_
      exact mm_xfn rfl
    refine mm_xk (S' := (14, [some (.ref 30), some (.int (xs 1)), some (.int (xs 2)), some (.int (xs 3)), some (.int (xs 4)), some (.int (xs 5)), none], [.int 65535, .int 0, .int (xs 2)], (mm_fw3 (mm_zi 5) (.inr (10, mm_fw3f30 (.int 0))) (mm_zi 5) [.inr (11, [])]))) 4 3000 rfl ?_
    refine mm_xcl (v := (some (.int 1))) (w1 := (mm_fw3 (mm_zi 5) (.inr (10, mm_fw3f30 (.int 0))) (mm_zi 5) [.inr (11, [])])) rfl ?_ ?_
    · skip
      refine mm_xk (S' := (2, [some (.int (xs 2)), some (.int 0), some (.int 65535)], [.int 0, .int (xs 2)], (mm_fw3 (mm_zi 5) (.inr (10, mm_fw3f30 (.int 0))) (mm_zi 5) [.inr (11, [])]))) 2 3000 rfl ?_
      refine mm_xif2 rfl false (mm_lt0 (a := (xs 2).toInt) (b := 0) rfl rfl (by omega)) rfl ?_
      refine mm_xk (S' := (7, [some (.int (xs 2)), some (.int 0), some (.int 65535)], [.int 65535, .int (xs 2)], (mm_fw3 (mm_zi 5) (.inr (10, mm_fw3f30 (.int 0))) (mm_zi 5) [.inr (11, [])]))) 2 3000 rfl ?_
      refine mm_xif2 rfl false (mm_gt0 (a := (xs 2).toInt) (b := 65535) rfl rfl (by omega)) rfl ?_
      refine mm_xk (S' := (15, [some (.int (xs 2)), some (.int 0), some (.int 65535)], [.int 1], (mm_fw3 (mm_zi 5) (.inr (10, mm_fw3f30 (.int 0))) (mm_zi 5) [.inr (11, [])]))) 2 3000 rfl ?_
      exact mm_xfn rfl
    refine mm_xk (S' := (24, [some (.ref 30), some (.int (xs 1)), some (.int (xs 2)), some (.int (xs 3)), some (.int (xs 4)), some (.int (xs 5)), none], [.int 65535, .int 0, .int (xs 3)], (mm_fw3 (mm_zi 5) (.inr (10, mm_fw3f30 (.int 0))) (mm_zi 5) [.inr (11, [])]))) 4 3000 rfl ?_
    refine mm_xcl (v := (some (.int 1))) (w1 := (mm_fw3 (mm_zi 5) (.inr (10, mm_fw3f30 (.int 0))) (mm_zi 5) [.inr (11, [])])) rfl ?_ ?_
    · skip
      refine mm_xk (S' := (2, [some (.int (xs 3)), some (.int 0), some (.int 65535)], [.int 0, .int (xs 3)], (mm_fw3 (mm_zi 5) (.inr (10, mm_fw3f30 (.int 0))) (mm_zi 5) [.inr (11, [])]))) 2 3000 rfl ?_
      refine mm_xif2 rfl false (mm_lt0 (a := (xs 3).toInt) (b := 0) rfl rfl (by omega)) rfl ?_
      refine mm_xk (S' := (7, [some (.int (xs 3)), some (.int 0), some (.int 65535)], [.int 65535, .int (xs 3)], (mm_fw3 (mm_zi 5) (.inr (10, mm_fw3f30 (.int 0))) (mm_zi 5) [.inr (11, [])]))) 2 3000 rfl ?_
      refine mm_xif2 rfl false (mm_gt0 (a := (xs 3).toInt) (b := 65535) rfl rfl (by omega)) rfl ?_
      refine mm_xk (S' := (15, [some (.int (xs 3)), some (.int 0), some (.int 65535)], [.int 1], (mm_fw3 (mm_zi 5) (.inr (10, mm_fw3f30 (.int 0))) (mm_zi 5) [.inr (11, [])]))) 2 3000 rfl ?_
      exact mm_xfn rfl
    refine mm_xk (S' := (35, [some (.ref 30), some (.int (xs 1)), some (.int (xs 2)), some (.int (xs 3)), some (.int (xs 4)), some (.int (xs 5)), none], [.int 65535, .int 0, .int (xs 4)], (mm_fw3 (mm_zi 5) (.inr (10, mm_fw3f30 (.int 0))) (mm_zi 5) [.inr (11, [])]))) 4 3000 rfl ?_
    refine mm_xcl (v := (some (.int 1))) (w1 := (mm_fw3 (mm_zi 5) (.inr (10, mm_fw3f30 (.int 0))) (mm_zi 5) [.inr (11, [])])) rfl ?_ ?_
    · skip
      refine mm_xk (S' := (2, [some (.int (xs 4)), some (.int 0), some (.int 65535)], [.int 0, .int (xs 4)], (mm_fw3 (mm_zi 5) (.inr (10, mm_fw3f30 (.int 0))) (mm_zi 5) [.inr (11, [])]))) 2 3000 rfl ?_
      refine mm_xif2 rfl false (mm_lt0 (a := (xs 4).toInt) (b := 0) rfl rfl (by omega)) rfl ?_
      refine mm_xk (S' := (7, [some (.int (xs 4)), some (.int 0), some (.int 65535)], [.int 65535, .int (xs 4)], (mm_fw3 (mm_zi 5) (.inr (10, mm_fw3f30 (.int 0))) (mm_zi 5) [.inr (11, [])]))) 2 3000 rfl ?_
      refine mm_xif2 rfl false (mm_gt0 (a := (xs 4).toInt) (b := 65535) rfl rfl (by omega)) rfl ?_
      refine mm_xk (S' := (15, [some (.int (xs 4)), some (.int 0), some (.int 65535)], [.int 1], (mm_fw3 (mm_zi 5) (.inr (10, mm_fw3f30 (.int 0))) (mm_zi 5) [.inr (11, [])]))) 2 3000 rfl ?_
      exact mm_xfn rfl
    refine mm_xk (S' := (46, [some (.ref 30), some (.int (xs 1)), some (.int (xs 2)), some (.int (xs 3)), some (.int (xs 4)), some (.int (xs 5)), none], [.int 65535, .int 0, .int (xs 5)], (mm_fw3 (mm_zi 5) (.inr (10, mm_fw3f30 (.int 0))) (mm_zi 5) [.inr (11, [])]))) 4 3000 rfl ?_
    refine mm_xcl (v := (some (.int 0))) (w1 := (mm_fw3 (mm_zi 5) (.inr (10, mm_fw3f30 (.int 0))) (mm_zi 5) [.inr (11, [])])) rfl ?_ ?_
    · skip
      refine mm_xk (S' := (2, [some (.int (xs 5)), some (.int 0), some (.int 65535)], [.int 0, .int (xs 5)], (mm_fw3 (mm_zi 5) (.inr (10, mm_fw3f30 (.int 0))) (mm_zi 5) [.inr (11, [])]))) 2 3000 rfl ?_
      refine mm_xif2 rfl true (mm_lt1 (a := (xs 5).toInt) (b := 0) rfl rfl (by omega)) rfl ?_
      refine mm_xk (S' := (15, [some (.int (xs 5)), some (.int 0), some (.int 65535)], [.int 0], (mm_fw3 (mm_zi 5) (.inr (10, mm_fw3f30 (.int 0))) (mm_zi 5) [.inr (11, [])]))) 1 3000 rfl ?_
      exact mm_xfn rfl
    refine mm_xk (S' := (81, [some (.ref 30), some (.int (xs 1)), some (.int (xs 2)), some (.int (xs 3)), some (.int (xs 4)), some (.int (xs 5)), some (.int 0)], [], (mm_fw3 (mm_zi 5) (.inr (10, mm_fw3f30 (.int 1))) (mm_zi 5) [.inr (11, [])]))) 8 3000 rfl ?_
    refine mm_xk (S' := (88, [some (.ref 30), some (.int (xs 1)), some (.int (xs 2)), some (.int (xs 3)), some (.int (xs 4)), some (.int (xs 5)), some (.int 0)], [], (mm_fw3 (mm_zi 5) (.inr (10, mm_fw3f30 (.int 1))) (mm_zi 5) [.inr (11, [])]))) 3 3000 rfl ?_
    exact mm_xfn rfl
  refine mm_xk (S' := (1092, [some (.ref 1000004), some (.ref 0), some (.ref 30), some (.ref 47), some (.int 9), some (.int 1), none], [], (mm_fw3 (mm_zi 5) (.inr (10, mm_fw3f30 (.int 1))) (mm_zi 5) [.inr (11, [])]))) 6 3000 rfl ?_
  refine mm_xk (S' := (1096, [some (.ref 1000004), some (.ref 0), some (.ref 30), some (.ref 47), some (.int 9), some (.int 1), none], [.int 1], (mm_fw3 (mm_zi 5) (.inr (10, mm_fw3f30 (.int 1))) (mm_zi 5) [.inr (11, [])]))) 8 3000 rfl ?_
  exact mm_xfn rfl
set_option maxRecDepth 100000 in
set_option maxHeartbeats 4000000 in
theorem mm_lf3_8 (xs : Nat → Int32) (l1 : 0 ≤ (xs 1).toInt) (u1 : (xs 1).toInt ≤ 65535) (l2 : 0 ≤ (xs 2).toInt) (u2 : (xs 2).toInt ≤ 65535) (l3 : 0 ≤ (xs 3).toInt) (u3 : (xs 3).toInt ≤ 65535) (u4 : (xs 4).toInt ≤ -1) : mm_Ok xs 398 := by
  refine mm_Ok_of (w' := ((mm_w0.set 30 (.inr (10, (mm_f30.set 0 (.int 1))))) ++ [.inr (11, [])])) (mm_szP 6 (mm_szS 63 mm_sz0 rfl) rfl) rfl rfl ?_
  refine mm_xk (S' := (429, [some (.ref 1000004), some (.ref 0), some (.ref 30), some (.ref 47), some (.int 0), none, none], [.int (xs 5), .int (xs 4), .int (xs 3), .int (xs 2), .int (xs 1), .ref 0], (mm_fw3 (mm_zi 5) (.inr (10, mm_fw3f30 (.int 0))) (mm_zi 5) []))) 26 3000 rfl ?_
  refine mm_xcl (v := (some (.int 1))) (w1 := (mm_fw3 (mm_zi 5) (.inr (10, mm_fw3f30 (.int 0))) (mm_zi 5) [.inr (11, [])])) rfl ?_ ?_
  · skip
    refine mm_xk (S' := (8, [some (.ref 0), some (.int (xs 1)), some (.int (xs 2)), some (.int (xs 3)), some (.int (xs 4)), some (.int (xs 5)), none], [.int (xs 5), .int (xs 4), .int (xs 3), .int (xs 2), .int (xs 1), .ref 0], (mm_fw3 (mm_zi 5) (.inr (10, mm_fw3f30 (.int 0))) (mm_zi 5) []))) 6 3000 rfl ?_
    refine mm_xct (x := 11) (hp := 14) (w1 := (mm_fw3 (mm_zi 5) (.inr (10, mm_fw3f30 (.int 0))) (mm_zi 5) [.inr (11, [])])) rfl ?_ rfl ?_
    · skip
      refine mm_xk (S' := (1, [some (.ref 0), some (.int (xs 1)), some (.int (xs 2)), some (.int (xs 3)), some (.int (xs 4)), some (.int (xs 5))], [.int (xs 1)], (mm_fw3 (mm_zi 5) (.inr (10, mm_fw3f30 (.int 0))) (mm_zi 5) []))) 1 3000 rfl ?_
      refine mm_xcl (v := (some (.int 1))) (w1 := (mm_fw3 (mm_zi 5) (.inr (10, mm_fw3f30 (.int 0))) (mm_zi 5) [])) rfl ?_ ?_
      · skip
        refine mm_xk (S' := (1, [some (.int (xs 1))], [.int (xs 1)], (mm_fw3 (mm_zi 5) (.inr (10, mm_fw3f30 (.int 0))) (mm_zi 5) []))) 1 3000 rfl ?_
        refine mm_xif1 rfl false (mm_lt0 (a := (xs 1).toInt) (b := 0) rfl rfl (by omega)) rfl ?_
        refine mm_xk (S' := (7, [some (.int (xs 1))], [.int 65535, .int (xs 1)], (mm_fw3 (mm_zi 5) (.inr (10, mm_fw3f30 (.int 0))) (mm_zi 5) []))) 2 3000 rfl ?_
        refine mm_xif2 rfl false (mm_gt0 (a := (xs 1).toInt) (b := 65535) rfl rfl (by omega)) rfl ?_
        refine mm_xk (S' := (15, [some (.int (xs 1))], [.int 1], (mm_fw3 (mm_zi 5) (.inr (10, mm_fw3f30 (.int 0))) (mm_zi 5) []))) 2 3000 rfl ?_
        exact mm_xfn rfl
      refine mm_xk (S' := (8, [some (.ref 0), some (.int (xs 1)), some (.int (xs 2)), some (.int (xs 3)), some (.int (xs 4)), some (.int (xs 5))], [.int (xs 2)], (mm_fw3 (mm_zi 5) (.inr (10, mm_fw3f30 (.int 0))) (mm_zi 5) []))) 2 3000 rfl ?_
      refine mm_xcl (v := (some (.int 1))) (w1 := (mm_fw3 (mm_zi 5) (.inr (10, mm_fw3f30 (.int 0))) (mm_zi 5) [])) rfl ?_ ?_
      · skip
        refine mm_xk (S' := (1, [some (.int (xs 2))], [.int (xs 2)], (mm_fw3 (mm_zi 5) (.inr (10, mm_fw3f30 (.int 0))) (mm_zi 5) []))) 1 3000 rfl ?_
        refine mm_xif1 rfl false (mm_lt0 (a := (xs 2).toInt) (b := 0) rfl rfl (by omega)) rfl ?_
        refine mm_xk (S' := (7, [some (.int (xs 2))], [.int 65535, .int (xs 2)], (mm_fw3 (mm_zi 5) (.inr (10, mm_fw3f30 (.int 0))) (mm_zi 5) []))) 2 3000 rfl ?_
        refine mm_xif2 rfl false (mm_gt0 (a := (xs 2).toInt) (b := 65535) rfl rfl (by omega)) rfl ?_
        refine mm_xk (S' := (15, [some (.int (xs 2))], [.int 1], (mm_fw3 (mm_zi 5) (.inr (10, mm_fw3f30 (.int 0))) (mm_zi 5) []))) 2 3000 rfl ?_
        exact mm_xfn rfl
      refine mm_xk (S' := (15, [some (.ref 0), some (.int (xs 1)), some (.int (xs 2)), some (.int (xs 3)), some (.int (xs 4)), some (.int (xs 5))], [.int (xs 3)], (mm_fw3 (mm_zi 5) (.inr (10, mm_fw3f30 (.int 0))) (mm_zi 5) []))) 2 3000 rfl ?_
      refine mm_xcl (v := (some (.int 1))) (w1 := (mm_fw3 (mm_zi 5) (.inr (10, mm_fw3f30 (.int 0))) (mm_zi 5) [])) rfl ?_ ?_
      · skip
        refine mm_xk (S' := (1, [some (.int (xs 3))], [.int (xs 3)], (mm_fw3 (mm_zi 5) (.inr (10, mm_fw3f30 (.int 0))) (mm_zi 5) []))) 1 3000 rfl ?_
        refine mm_xif1 rfl false (mm_lt0 (a := (xs 3).toInt) (b := 0) rfl rfl (by omega)) rfl ?_
        refine mm_xk (S' := (7, [some (.int (xs 3))], [.int 65535, .int (xs 3)], (mm_fw3 (mm_zi 5) (.inr (10, mm_fw3f30 (.int 0))) (mm_zi 5) []))) 2 3000 rfl ?_
        refine mm_xif2 rfl false (mm_gt0 (a := (xs 3).toInt) (b := 65535) rfl rfl (by omega)) rfl ?_
        refine mm_xk (S' := (15, [some (.int (xs 3))], [.int 1], (mm_fw3 (mm_zi 5) (.inr (10, mm_fw3f30 (.int 0))) (mm_zi 5) []))) 2 3000 rfl ?_
        exact mm_xfn rfl
      refine mm_xk (S' := (23, [some (.ref 0), some (.int (xs 1)), some (.int (xs 2)), some (.int (xs 3)), some (.int (xs 4)), some (.int (xs 5))], [.int (xs 4)], (mm_fw3 (mm_zi 5) (.inr (10, mm_fw3f30 (.int 0))) (mm_zi 5) []))) 2 3000 rfl ?_
      refine mm_xcl (v := (some (.int 0))) (w1 := (mm_fw3 (mm_zi 5) (.inr (10, mm_fw3f30 (.int 0))) (mm_zi 5) [])) rfl ?_ ?_
      · skip
        refine mm_xk (S' := (1, [some (.int (xs 4))], [.int (xs 4)], (mm_fw3 (mm_zi 5) (.inr (10, mm_fw3f30 (.int 0))) (mm_zi 5) []))) 1 3000 rfl ?_
        refine mm_xif1 rfl true (mm_lt1 (a := (xs 4).toInt) (b := 0) rfl rfl (by omega)) rfl ?_
        refine mm_xk (S' := (15, [some (.int (xs 4))], [.int 0], (mm_fw3 (mm_zi 5) (.inr (10, mm_fw3f30 (.int 0))) (mm_zi 5) []))) 1 3000 rfl ?_
        exact mm_xfn rfl
      refine mm_xk (S' := (48, [some (.ref 0), some (.int (xs 1)), some (.int (xs 2)), some (.int (xs 3)), some (.int (xs 4)), some (.int (xs 5))], [], (mm_fw3 (mm_zi 5) (.inr (10, mm_fw3f30 (.int 0))) (mm_zi 5) []))) 1 3000 rfl ?_
      exact mm_xfn rfl
    refine mm_xk (S' := (17, [some (.ref 0), some (.int (xs 1)), some (.int (xs 2)), some (.int (xs 3)), some (.int (xs 4)), some (.int (xs 5)), some (.ref 48)], [.int 1], (mm_fw3 (mm_zi 5) (.inr (10, mm_fw3f30 (.int 0))) (mm_zi 5) [.inr (11, [])]))) 2 3000 rfl ?_
    exact mm_xfn rfl
  refine mm_xk (S' := (465, [some (.ref 1000004), some (.ref 0), some (.ref 30), some (.ref 47), some (.int 0), some (.int 1), none], [.int (xs 5), .int (xs 4), .int (xs 3), .int (xs 2), .int (xs 1), .ref 30], (mm_fw3 (mm_zi 5) (.inr (10, mm_fw3f30 (.int 0))) (mm_zi 5) [.inr (11, [])]))) 27 3000 rfl ?_
  refine mm_xcl (v := none) (w1 := (mm_fw3 (mm_zi 5) (.inr (10, mm_fw3f30 (.int 1))) (mm_zi 5) [.inr (11, [])])) rfl ?_ ?_
  · skip
    refine mm_xk (S' := (4, [some (.ref 30), some (.int (xs 1)), some (.int (xs 2)), some (.int (xs 3)), some (.int (xs 4)), some (.int (xs 5)), none], [.int 65535, .int 0, .int (xs 1)], (mm_fw3 (mm_zi 5) (.inr (10, mm_fw3f30 (.int 0))) (mm_zi 5) [.inr (11, [])]))) 3 3000 rfl ?_
    refine mm_xcl (v := (some (.int 1))) (w1 := (mm_fw3 (mm_zi 5) (.inr (10, mm_fw3f30 (.int 0))) (mm_zi 5) [.inr (11, [])])) rfl ?_ ?_
    · skip
      refine mm_xk (S' := (2, [some (.int (xs 1)), some (.int 0), some (.int 65535)], [.int 0, .int (xs 1)], (mm_fw3 (mm_zi 5) (.inr (10, mm_fw3f30 (.int 0))) (mm_zi 5) [.inr (11, [])]))) 2 3000 rfl ?_
      refine mm_xif2 rfl false (mm_lt0 (a := (xs 1).toInt) (b := 0) rfl rfl (by omega)) rfl ?_
      refine mm_xk (S' := (7, [some (.int (xs 1)), some (.int 0), some (.int 65535)], [.int 65535, .int (xs 1)], (mm_fw3 (mm_zi 5) (.inr (10, mm_fw3f30 (.int 0))) (mm_zi 5) [.inr (11, [])]))) 2 3000 rfl ?_
      refine mm_xif2 rfl false (mm_gt0 (a := (xs 1).toInt) (b := 65535) rfl rfl (by omega)) rfl ?_
      refine mm_xk (S' := (15, [some (.int (xs 1)), some (.int 0), some (.int 65535)], [.int 1], (mm_fw3 (mm_zi 5) (.inr (10, mm_fw3f30 (.int 0))) (mm_zi 5) [.inr (11, [])]))) 2 3000 rfl ?_
      exact mm_xfn rfl
    refine mm_xk (S' := (14, [some (.ref 30), some (.int (xs 1)), some (.int (xs 2)), some (.int (xs 3)), some (.int (xs 4)), some (.int (xs 5)), none], [.int 65535, .int 0, .int (xs 2)], (mm_fw3 (mm_zi 5) (.inr (10, mm_fw3f30 (.int 0))) (mm_zi 5) [.inr (11, [])]))) 4 3000 rfl ?_
    refine mm_xcl (v := (some (.int 1))) (w1 := (mm_fw3 (mm_zi 5) (.inr (10, mm_fw3f30 (.int 0))) (mm_zi 5) [.inr (11, [])])) rfl ?_ ?_
    · skip
      refine mm_xk (S' := (2, [some (.int (xs 2)), some (.int 0), some (.int 65535)], [.int 0, .int (xs 2)], (mm_fw3 (mm_zi 5) (.inr (10, mm_fw3f30 (.int 0))) (mm_zi 5) [.inr (11, [])]))) 2 3000 rfl ?_
      refine mm_xif2 rfl false (mm_lt0 (a := (xs 2).toInt) (b := 0) rfl rfl (by omega)) rfl ?_
      refine mm_xk (S' := (7, [some (.int (xs 2)), some (.int 0), some (.int 65535)], [.int 65535, .int (xs 2)], (mm_fw3 (mm_zi 5) (.inr (10, mm_fw3f30 (.int 0))) (mm_zi 5) [.inr (11, [])]))) 2 3000 rfl ?_
      refine mm_xif2 rfl false (mm_gt0 (a := (xs 2).toInt) (b := 65535) rfl rfl (by omega)) rfl ?_
      refine mm_xk (S' := (15, [some (.int (xs 2)), some (.int 0), some (.int 65535)], [.int 1], (mm_fw3 (mm_zi 5) (.inr (10, mm_fw3f30 (.int 0))) (mm_zi 5) [.inr (11, [])]))) 2 3000 rfl ?_
      exact mm_xfn rfl
    refine mm_xk (S' := (24, [some (.ref 30), some (.int (xs 1)), some (.int (xs 2)), some (.int (xs 3)), some (.int (xs 4)), some (.int (xs 5)), none], [.int 65535, .int 0, .int (xs 3)], (mm_fw3 (mm_zi 5) (.inr (10, mm_fw3f30 (.int 0))) (mm_zi 5) [.inr (11, [])]))) 4 3000 rfl ?_
    refine mm_xcl (v := (some (.int 1))) (w1 := (mm_fw3 (mm_zi 5) (.inr (10, mm_fw3f30 (.int 0))) (mm_zi 5) [.inr (11, [])])) rfl ?_ ?_
    · skip
      refine mm_xk (S' := (2, [some (.int (xs 3)), some (.int 0), some (.int 65535)], [.int 0, .int (xs 3)], (mm_fw3 (mm_zi 5) (.inr (10, mm_fw3f30 (.int 0))) (mm_zi 5) [.inr (11, [])]))) 2 3000 rfl ?_
      refine mm_xif2 rfl false (mm_lt0 (a := (xs 3).toInt) (b := 0) rfl rfl (by omega)) rfl ?_
      refine mm_xk (S' := (7, [some (.int (xs 3)), some (.int 0), some (.int 65535)], [.int 65535, .int (xs 3)], (mm_fw3 (mm_zi 5) (.inr (10, mm_fw3f30 (.int 0))) (mm_zi 5) [.inr (11, [])]))) 2 3000 rfl ?_
      refine mm_xif2 rfl false (mm_gt0 (a := (xs 3).toInt) (b := 65535) rfl rfl (by omega)) rfl ?_
      refine mm_xk (S' := (15, [some (.int (xs 3)), some (.int 0), some (.int 65535)], [.int 1], (mm_fw3 (mm_zi 5) (.inr (10, mm_fw3f30 (.int 0))) (mm_zi 5) [.inr (11, [])]))) 2 3000 rfl ?_
      exact mm_xfn rfl
    refine mm_xk (S' := (35, [some (.ref 30), some (.int (xs 1)), some (.int (xs 2)), some (.int (xs 3)), some (.int (xs 4)), some (.int (xs 5)), none], [.int 65535, .int 0, .int (xs 4)], (mm_fw3 (mm_zi 5) (.inr (10, mm_fw3f30 (.int 0))) (mm_zi 5) [.inr (11, [])]))) 4 3000 rfl ?_
    refine mm_xcl (v := (some (.int 0))) (w1 := (mm_fw3 (mm_zi 5) (.inr (10, mm_fw3f30 (.int 0))) (mm_zi 5) [.inr (11, [])])) rfl ?_ ?_
    · skip
      refine mm_xk (S' := (2, [some (.int (xs 4)), some (.int 0), some (.int 65535)], [.int 0, .int (xs 4)], (mm_fw3 (mm_zi 5) (.inr (10, mm_fw3f30 (.int 0))) (mm_zi 5) [.inr (11, [])]))) 2 3000 rfl ?_
      refine mm_xif2 rfl true (mm_lt1 (a := (xs 4).toInt) (b := 0) rfl rfl (by omega)) rfl ?_
      refine mm_xk (S' := (15, [some (.int (xs 4)), some (.int 0), some (.int 65535)], [.int 0], (mm_fw3 (mm_zi 5) (.inr (10, mm_fw3f30 (.int 0))) (mm_zi 5) [.inr (11, [])]))) 1 3000 rfl ?_
      exact mm_xfn rfl
    refine mm_xk (S' := (81, [some (.ref 30), some (.int (xs 1)), some (.int (xs 2)), some (.int (xs 3)), some (.int (xs 4)), some (.int (xs 5)), some (.int 0)], [], (mm_fw3 (mm_zi 5) (.inr (10, mm_fw3f30 (.int 1))) (mm_zi 5) [.inr (11, [])]))) 8 3000 rfl ?_
    refine mm_xk (S' := (88, [some (.ref 30), some (.int (xs 1)), some (.int (xs 2)), some (.int (xs 3)), some (.int (xs 4)), some (.int (xs 5)), some (.int 0)], [], (mm_fw3 (mm_zi 5) (.inr (10, mm_fw3f30 (.int 1))) (mm_zi 5) [.inr (11, [])]))) 3 3000 rfl ?_
    exact mm_xfn rfl
  refine mm_xk (S' := (1092, [some (.ref 1000004), some (.ref 0), some (.ref 30), some (.ref 47), some (.int 9), some (.int 1), none], [], (mm_fw3 (mm_zi 5) (.inr (10, mm_fw3f30 (.int 1))) (mm_zi 5) [.inr (11, [])]))) 6 3000 rfl ?_
  refine mm_xk (S' := (1096, [some (.ref 1000004), some (.ref 0), some (.ref 30), some (.ref 47), some (.int 9), some (.int 1), none], [.int 1], (mm_fw3 (mm_zi 5) (.inr (10, mm_fw3f30 (.int 1))) (mm_zi 5) [.inr (11, [])]))) 8 3000 rfl ?_
  exact mm_xfn rfl
set_option maxRecDepth 100000 in
set_option maxHeartbeats 4000000 in
theorem mm_lf3_9 (xs : Nat → Int32) (l1 : 0 ≤ (xs 1).toInt) (u1 : (xs 1).toInt ≤ 65535) (l2 : 0 ≤ (xs 2).toInt) (u2 : (xs 2).toInt ≤ 65535) (u3 : (xs 3).toInt ≤ -1) : mm_Ok xs 398 := by
  refine mm_Ok_of (w' := ((mm_w0.set 30 (.inr (10, (mm_f30.set 0 (.int 1))))) ++ [.inr (11, [])])) (mm_szP 6 (mm_szS 63 mm_sz0 rfl) rfl) rfl rfl ?_
  refine mm_xk (S' := (429, [some (.ref 1000004), some (.ref 0), some (.ref 30), some (.ref 47), some (.int 0), none, none], [.int (xs 5), .int (xs 4), .int (xs 3), .int (xs 2), .int (xs 1), .ref 0], (mm_fw3 (mm_zi 5) (.inr (10, mm_fw3f30 (.int 0))) (mm_zi 5) []))) 26 3000 rfl ?_
  refine mm_xcl (v := (some (.int 1))) (w1 := (mm_fw3 (mm_zi 5) (.inr (10, mm_fw3f30 (.int 0))) (mm_zi 5) [.inr (11, [])])) rfl ?_ ?_
  · skip
    refine mm_xk (S' := (8, [some (.ref 0), some (.int (xs 1)), some (.int (xs 2)), some (.int (xs 3)), some (.int (xs 4)), some (.int (xs 5)), none], [.int (xs 5), .int (xs 4), .int (xs 3), .int (xs 2), .int (xs 1), .ref 0], (mm_fw3 (mm_zi 5) (.inr (10, mm_fw3f30 (.int 0))) (mm_zi 5) []))) 6 3000 rfl ?_
    refine mm_xct (x := 11) (hp := 14) (w1 := (mm_fw3 (mm_zi 5) (.inr (10, mm_fw3f30 (.int 0))) (mm_zi 5) [.inr (11, [])])) rfl ?_ rfl ?_
    · skip
      refine mm_xk (S' := (1, [some (.ref 0), some (.int (xs 1)), some (.int (xs 2)), some (.int (xs 3)), some (.int (xs 4)), some (.int (xs 5))], [.int (xs 1)], (mm_fw3 (mm_zi 5) (.inr (10, mm_fw3f30 (.int 0))) (mm_zi 5) []))) 1 3000 rfl ?_
      refine mm_xcl (v := (some (.int 1))) (w1 := (mm_fw3 (mm_zi 5) (.inr (10, mm_fw3f30 (.int 0))) (mm_zi 5) [])) rfl ?_ ?_
      · skip
        refine mm_xk (S' := (1, [some (.int (xs 1))], [.int (xs 1)], (mm_fw3 (mm_zi 5) (.inr (10, mm_fw3f30 (.int 0))) (mm_zi 5) []))) 1 3000 rfl ?_
        refine mm_xif1 rfl false (mm_lt0 (a := (xs 1).toInt) (b := 0) rfl rfl (by omega)) rfl ?_
        refine mm_xk (S' := (7, [some (.int (xs 1))], [.int 65535, .int (xs 1)], (mm_fw3 (mm_zi 5) (.inr (10, mm_fw3f30 (.int 0))) (mm_zi 5) []))) 2 3000 rfl ?_
        refine mm_xif2 rfl false (mm_gt0 (a := (xs 1).toInt) (b := 65535) rfl rfl (by omega)) rfl ?_
        refine mm_xk (S' := (15, [some (.int (xs 1))], [.int 1], (mm_fw3 (mm_zi 5) (.inr (10, mm_fw3f30 (.int 0))) (mm_zi 5) []))) 2 3000 rfl ?_
        exact mm_xfn rfl
      refine mm_xk (S' := (8, [some (.ref 0), some (.int (xs 1)), some (.int (xs 2)), some (.int (xs 3)), some (.int (xs 4)), some (.int (xs 5))], [.int (xs 2)], (mm_fw3 (mm_zi 5) (.inr (10, mm_fw3f30 (.int 0))) (mm_zi 5) []))) 2 3000 rfl ?_
      refine mm_xcl (v := (some (.int 1))) (w1 := (mm_fw3 (mm_zi 5) (.inr (10, mm_fw3f30 (.int 0))) (mm_zi 5) [])) rfl ?_ ?_
      · skip
        refine mm_xk (S' := (1, [some (.int (xs 2))], [.int (xs 2)], (mm_fw3 (mm_zi 5) (.inr (10, mm_fw3f30 (.int 0))) (mm_zi 5) []))) 1 3000 rfl ?_
        refine mm_xif1 rfl false (mm_lt0 (a := (xs 2).toInt) (b := 0) rfl rfl (by omega)) rfl ?_
        refine mm_xk (S' := (7, [some (.int (xs 2))], [.int 65535, .int (xs 2)], (mm_fw3 (mm_zi 5) (.inr (10, mm_fw3f30 (.int 0))) (mm_zi 5) []))) 2 3000 rfl ?_
        refine mm_xif2 rfl false (mm_gt0 (a := (xs 2).toInt) (b := 65535) rfl rfl (by omega)) rfl ?_
        refine mm_xk (S' := (15, [some (.int (xs 2))], [.int 1], (mm_fw3 (mm_zi 5) (.inr (10, mm_fw3f30 (.int 0))) (mm_zi 5) []))) 2 3000 rfl ?_
        exact mm_xfn rfl
      refine mm_xk (S' := (15, [some (.ref 0), some (.int (xs 1)), some (.int (xs 2)), some (.int (xs 3)), some (.int (xs 4)), some (.int (xs 5))], [.int (xs 3)], (mm_fw3 (mm_zi 5) (.inr (10, mm_fw3f30 (.int 0))) (mm_zi 5) []))) 2 3000 rfl ?_
      refine mm_xcl (v := (some (.int 0))) (w1 := (mm_fw3 (mm_zi 5) (.inr (10, mm_fw3f30 (.int 0))) (mm_zi 5) [])) rfl ?_ ?_
      · skip
        refine mm_xk (S' := (1, [some (.int (xs 3))], [.int (xs 3)], (mm_fw3 (mm_zi 5) (.inr (10, mm_fw3f30 (.int 0))) (mm_zi 5) []))) 1 3000 rfl ?_
        refine mm_xif1 rfl true (mm_lt1 (a := (xs 3).toInt) (b := 0) rfl rfl (by omega)) rfl ?_
        refine mm_xk (S' := (15, [some (.int (xs 3))], [.int 0], (mm_fw3 (mm_zi 5) (.inr (10, mm_fw3f30 (.int 0))) (mm_zi 5) []))) 1 3000 rfl ?_
        exact mm_xfn rfl
      refine mm_xk (S' := (48, [some (.ref 0), some (.int (xs 1)), some (.int (xs 2)), some (.int (xs 3)), some (.int (xs 4)), some (.int (xs 5))], [], (mm_fw3 (mm_zi 5) (.inr (10, mm_fw3f30 (.int 0))) (mm_zi 5) []))) 1 3000 rfl ?_
      exact mm_xfn rfl
    refine mm_xk (S' := (17, [some (.ref 0), some (.int (xs 1)), some (.int (xs 2)), some (.int (xs 3)), some (.int (xs 4)), some (.int (xs 5)), some (.ref 48)], [.int 1], (mm_fw3 (mm_zi 5) (.inr (10, mm_fw3f30 (.int 0))) (mm_zi 5) [.inr (11, [])]))) 2 3000 rfl ?_
    exact mm_xfn rfl
  refine mm_xk (S' := (465, [some (.ref 1000004), some (.ref 0), some (.ref 30), some (.ref 47), some (.int 0), some (.int 1), none], [.int (xs 5), .int (xs 4), .int (xs 3), .int (xs 2), .int (xs 1), .ref 30], (mm_fw3 (mm_zi 5) (.inr (10, mm_fw3f30 (.int 0))) (mm_zi 5) [.inr (11, [])]))) 27 3000 rfl ?_
  refine mm_xcl (v := none) (w1 := (mm_fw3 (mm_zi 5) (.inr (10, mm_fw3f30 (.int 1))) (mm_zi 5) [.inr (11, [])])) rfl ?_ ?_
  · skip
    refine mm_xk (S' := (4, [some (.ref 30), some (.int (xs 1)), some (.int (xs 2)), some (.int (xs 3)), some (.int (xs 4)), some (.int (xs 5)), none], [.int 65535, .int 0, .int (xs 1)], (mm_fw3 (mm_zi 5) (.inr (10, mm_fw3f30 (.int 0))) (mm_zi 5) [.inr (11, [])]))) 3 3000 rfl ?_
    refine mm_xcl (v := (some (.int 1))) (w1 := (mm_fw3 (mm_zi 5) (.inr (10, mm_fw3f30 (.int 0))) (mm_zi 5) [.inr (11, [])])) rfl ?_ ?_
    · skip
      refine mm_xk (S' := (2, [some (.int (xs 1)), some (.int 0), some (.int 65535)], [.int 0, .int (xs 1)], (mm_fw3 (mm_zi 5) (.inr (10, mm_fw3f30 (.int 0))) (mm_zi 5) [.inr (11, [])]))) 2 3000 rfl ?_
      refine mm_xif2 rfl false (mm_lt0 (a := (xs 1).toInt) (b := 0) rfl rfl (by omega)) rfl ?_
      refine mm_xk (S' := (7, [some (.int (xs 1)), some (.int 0), some (.int 65535)], [.int 65535, .int (xs 1)], (mm_fw3 (mm_zi 5) (.inr (10, mm_fw3f30 (.int 0))) (mm_zi 5) [.inr (11, [])]))) 2 3000 rfl ?_
      refine mm_xif2 rfl false (mm_gt0 (a := (xs 1).toInt) (b := 65535) rfl rfl (by omega)) rfl ?_
      refine mm_xk (S' := (15, [some (.int (xs 1)), some (.int 0), some (.int 65535)], [.int 1], (mm_fw3 (mm_zi 5) (.inr (10, mm_fw3f30 (.int 0))) (mm_zi 5) [.inr (11, [])]))) 2 3000 rfl ?_
      exact mm_xfn rfl
    refine mm_xk (S' := (14, [some (.ref 30), some (.int (xs 1)), some (.int (xs 2)), some (.int (xs 3)), some (.int (xs 4)), some (.int (xs 5)), none], [.int 65535, .int 0, .int (xs 2)], (mm_fw3 (mm_zi 5) (.inr (10, mm_fw3f30 (.int 0))) (mm_zi 5) [.inr (11, [])]))) 4 3000 rfl ?_
    refine mm_xcl (v := (some (.int 1))) (w1 := (mm_fw3 (mm_zi 5) (.inr (10, mm_fw3f30 (.int 0))) (mm_zi 5) [.inr (11, [])])) rfl ?_ ?_
    · skip
      refine mm_xk (S' := (2, [some (.int (xs 2)), some (.int 0), some (.int 65535)], [.int 0, .int (xs 2)], (mm_fw3 (mm_zi 5) (.inr (10, mm_fw3f30 (.int 0))) (mm_zi 5) [.inr (11, [])]))) 2 3000 rfl ?_
      refine mm_xif2 rfl false (mm_lt0 (a := (xs 2).toInt) (b := 0) rfl rfl (by omega)) rfl ?_
      refine mm_xk (S' := (7, [some (.int (xs 2)), some (.int 0), some (.int 65535)], [.int 65535, .int (xs 2)], (mm_fw3 (mm_zi 5) (.inr (10, mm_fw3f30 (.int 0))) (mm_zi 5) [.inr (11, [])]))) 2 3000 rfl ?_
      refine mm_xif2 rfl false (mm_gt0 (a := (xs 2).toInt) (b := 65535) rfl rfl (by omega)) rfl ?_
      refine mm_xk (S' := (15, [some (.int (xs 2)), some (.int 0), some (.int 65535)], [.int 1], (mm_fw3 (mm_zi 5) (.inr (10, mm_fw3f30 (.int 0))) (mm_zi 5) [.inr (11, [])]))) 2 3000 rfl ?_
      exact mm_xfn rfl
    refine mm_xk (S' := (24, [some (.ref 30), some (.int (xs 1)), some (.int (xs 2)), some (.int (xs 3)), some (.int (xs 4)), some (.int (xs 5)), none], [.int 65535, .int 0, .int (xs 3)], (mm_fw3 (mm_zi 5) (.inr (10, mm_fw3f30 (.int 0))) (mm_zi 5) [.inr (11, [])]))) 4 3000 rfl ?_
    refine mm_xcl (v := (some (.int 0))) (w1 := (mm_fw3 (mm_zi 5) (.inr (10, mm_fw3f30 (.int 0))) (mm_zi 5) [.inr (11, [])])) rfl ?_ ?_
    · skip
      refine mm_xk (S' := (2, [some (.int (xs 3)), some (.int 0), some (.int 65535)], [.int 0, .int (xs 3)], (mm_fw3 (mm_zi 5) (.inr (10, mm_fw3f30 (.int 0))) (mm_zi 5) [.inr (11, [])]))) 2 3000 rfl ?_
      refine mm_xif2 rfl true (mm_lt1 (a := (xs 3).toInt) (b := 0) rfl rfl (by omega)) rfl ?_
      refine mm_xk (S' := (15, [some (.int (xs 3)), some (.int 0), some (.int 65535)], [.int 0], (mm_fw3 (mm_zi 5) (.inr (10, mm_fw3f30 (.int 0))) (mm_zi 5) [.inr (11, [])]))) 1 3000 rfl ?_
      exact mm_xfn rfl
    refine mm_xk (S' := (81, [some (.ref 30), some (.int (xs 1)), some (.int (xs 2)), some (.int (xs 3)), some (.int (xs 4)), some (.int (xs 5)), some (.int 0)], [], (mm_fw3 (mm_zi 5) (.inr (10, mm_fw3f30 (.int 1))) (mm_zi 5) [.inr (11, [])]))) 8 3000 rfl ?_
    refine mm_xk (S' := (88, [some (.ref 30), some (.int (xs 1)), some (.int (xs 2)), some (.int (xs 3)), some (.int (xs 4)), some (.int (xs 5)), some (.int 0)], [], (mm_fw3 (mm_zi 5) (.inr (10, mm_fw3f30 (.int 1))) (mm_zi 5) [.inr (11, [])]))) 3 3000 rfl ?_
    exact mm_xfn rfl
  refine mm_xk (S' := (1092, [some (.ref 1000004), some (.ref 0), some (.ref 30), some (.ref 47), some (.int 9), some (.int 1), none], [], (mm_fw3 (mm_zi 5) (.inr (10, mm_fw3f30 (.int 1))) (mm_zi 5) [.inr (11, [])]))) 6 3000 rfl ?_
  refine mm_xk (S' := (1096, [some (.ref 1000004), some (.ref 0), some (.ref 30), some (.ref 47), some (.int 9), some (.int 1), none], [.int 1], (mm_fw3 (mm_zi 5) (.inr (10, mm_fw3f30 (.int 1))) (mm_zi 5) [.inr (11, [])]))) 8 3000 rfl ?_
  exact mm_xfn rfl
set_option maxRecDepth 100000 in
set_option maxHeartbeats 4000000 in
theorem mm_lf3_10 (xs : Nat → Int32) (l1 : 0 ≤ (xs 1).toInt) (u1 : (xs 1).toInt ≤ 65535) (u2 : (xs 2).toInt ≤ -1) : mm_Ok xs 398 := by
  refine mm_Ok_of (w' := ((mm_w0.set 30 (.inr (10, (mm_f30.set 0 (.int 1))))) ++ [.inr (11, [])])) (mm_szP 6 (mm_szS 63 mm_sz0 rfl) rfl) rfl rfl ?_
  refine mm_xk (S' := (429, [some (.ref 1000004), some (.ref 0), some (.ref 30), some (.ref 47), some (.int 0), none, none], [.int (xs 5), .int (xs 4), .int (xs 3), .int (xs 2), .int (xs 1), .ref 0], (mm_fw3 (mm_zi 5) (.inr (10, mm_fw3f30 (.int 0))) (mm_zi 5) []))) 26 3000 rfl ?_
  refine mm_xcl (v := (some (.int 1))) (w1 := (mm_fw3 (mm_zi 5) (.inr (10, mm_fw3f30 (.int 0))) (mm_zi 5) [.inr (11, [])])) rfl ?_ ?_
  · skip
    refine mm_xk (S' := (8, [some (.ref 0), some (.int (xs 1)), some (.int (xs 2)), some (.int (xs 3)), some (.int (xs 4)), some (.int (xs 5)), none], [.int (xs 5), .int (xs 4), .int (xs 3), .int (xs 2), .int (xs 1), .ref 0], (mm_fw3 (mm_zi 5) (.inr (10, mm_fw3f30 (.int 0))) (mm_zi 5) []))) 6 3000 rfl ?_
    refine mm_xct (x := 11) (hp := 14) (w1 := (mm_fw3 (mm_zi 5) (.inr (10, mm_fw3f30 (.int 0))) (mm_zi 5) [.inr (11, [])])) rfl ?_ rfl ?_
    · skip
      refine mm_xk (S' := (1, [some (.ref 0), some (.int (xs 1)), some (.int (xs 2)), some (.int (xs 3)), some (.int (xs 4)), some (.int (xs 5))], [.int (xs 1)], (mm_fw3 (mm_zi 5) (.inr (10, mm_fw3f30 (.int 0))) (mm_zi 5) []))) 1 3000 rfl ?_
      refine mm_xcl (v := (some (.int 1))) (w1 := (mm_fw3 (mm_zi 5) (.inr (10, mm_fw3f30 (.int 0))) (mm_zi 5) [])) rfl ?_ ?_
      · skip
        refine mm_xk (S' := (1, [some (.int (xs 1))], [.int (xs 1)], (mm_fw3 (mm_zi 5) (.inr (10, mm_fw3f30 (.int 0))) (mm_zi 5) []))) 1 3000 rfl ?_
        refine mm_xif1 rfl false (mm_lt0 (a := (xs 1).toInt) (b := 0) rfl rfl (by omega)) rfl ?_
        refine mm_xk (S' := (7, [some (.int (xs 1))], [.int 65535, .int (xs 1)], (mm_fw3 (mm_zi 5) (.inr (10, mm_fw3f30 (.int 0))) (mm_zi 5) []))) 2 3000 rfl ?_
        refine mm_xif2 rfl false (mm_gt0 (a := (xs 1).toInt) (b := 65535) rfl rfl (by omega)) rfl ?_
        refine mm_xk (S' := (15, [some (.int (xs 1))], [.int 1], (mm_fw3 (mm_zi 5) (.inr (10, mm_fw3f30 (.int 0))) (mm_zi 5) []))) 2 3000 rfl ?_
        exact mm_xfn rfl
      refine mm_xk (S' := (8, [some (.ref 0), some (.int (xs 1)), some (.int (xs 2)), some (.int (xs 3)), some (.int (xs 4)), some (.int (xs 5))], [.int (xs 2)], (mm_fw3 (mm_zi 5) (.inr (10, mm_fw3f30 (.int 0))) (mm_zi 5) []))) 2 3000 rfl ?_
      refine mm_xcl (v := (some (.int 0))) (w1 := (mm_fw3 (mm_zi 5) (.inr (10, mm_fw3f30 (.int 0))) (mm_zi 5) [])) rfl ?_ ?_
      · skip
        refine mm_xk (S' := (1, [some (.int (xs 2))], [.int (xs 2)], (mm_fw3 (mm_zi 5) (.inr (10, mm_fw3f30 (.int 0))) (mm_zi 5) []))) 1 3000 rfl ?_
        refine mm_xif1 rfl true (mm_lt1 (a := (xs 2).toInt) (b := 0) rfl rfl (by omega)) rfl ?_
        refine mm_xk (S' := (15, [some (.int (xs 2))], [.int 0], (mm_fw3 (mm_zi 5) (.inr (10, mm_fw3f30 (.int 0))) (mm_zi 5) []))) 1 3000 rfl ?_
        exact mm_xfn rfl
      refine mm_xk (S' := (48, [some (.ref 0), some (.int (xs 1)), some (.int (xs 2)), some (.int (xs 3)), some (.int (xs 4)), some (.int (xs 5))], [], (mm_fw3 (mm_zi 5) (.inr (10, mm_fw3f30 (.int 0))) (mm_zi 5) []))) 1 3000 rfl ?_
      exact mm_xfn rfl
    refine mm_xk (S' := (17, [some (.ref 0), some (.int (xs 1)), some (.int (xs 2)), some (.int (xs 3)), some (.int (xs 4)), some (.int (xs 5)), some (.ref 48)], [.int 1], (mm_fw3 (mm_zi 5) (.inr (10, mm_fw3f30 (.int 0))) (mm_zi 5) [.inr (11, [])]))) 2 3000 rfl ?_
    exact mm_xfn rfl
  refine mm_xk (S' := (465, [some (.ref 1000004), some (.ref 0), some (.ref 30), some (.ref 47), some (.int 0), some (.int 1), none], [.int (xs 5), .int (xs 4), .int (xs 3), .int (xs 2), .int (xs 1), .ref 30], (mm_fw3 (mm_zi 5) (.inr (10, mm_fw3f30 (.int 0))) (mm_zi 5) [.inr (11, [])]))) 27 3000 rfl ?_
  refine mm_xcl (v := none) (w1 := (mm_fw3 (mm_zi 5) (.inr (10, mm_fw3f30 (.int 1))) (mm_zi 5) [.inr (11, [])])) rfl ?_ ?_
  · skip
    refine mm_xk (S' := (4, [some (.ref 30), some (.int (xs 1)), some (.int (xs 2)), some (.int (xs 3)), some (.int (xs 4)), some (.int (xs 5)), none], [.int 65535, .int 0, .int (xs 1)], (mm_fw3 (mm_zi 5) (.inr (10, mm_fw3f30 (.int 0))) (mm_zi 5) [.inr (11, [])]))) 3 3000 rfl ?_
    refine mm_xcl (v := (some (.int 1))) (w1 := (mm_fw3 (mm_zi 5) (.inr (10, mm_fw3f30 (.int 0))) (mm_zi 5) [.inr (11, [])])) rfl ?_ ?_
    · skip
      refine mm_xk (S' := (2, [some (.int (xs 1)), some (.int 0), some (.int 65535)], [.int 0, .int (xs 1)], (mm_fw3 (mm_zi 5) (.inr (10, mm_fw3f30 (.int 0))) (mm_zi 5) [.inr (11, [])]))) 2 3000 rfl ?_
      refine mm_xif2 rfl false (mm_lt0 (a := (xs 1).toInt) (b := 0) rfl rfl (by omega)) rfl ?_
      refine mm_xk (S' := (7, [some (.int (xs 1)), some (.int 0), some (.int 65535)], [.int 65535, .int (xs 1)], (mm_fw3 (mm_zi 5) (.inr (10, mm_fw3f30 (.int 0))) (mm_zi 5) [.inr (11, [])]))) 2 3000 rfl ?_
      refine mm_xif2 rfl false (mm_gt0 (a := (xs 1).toInt) (b := 65535) rfl rfl (by omega)) rfl ?_
      refine mm_xk (S' := (15, [some (.int (xs 1)), some (.int 0), some (.int 65535)], [.int 1], (mm_fw3 (mm_zi 5) (.inr (10, mm_fw3f30 (.int 0))) (mm_zi 5) [.inr (11, [])]))) 2 3000 rfl ?_
      exact mm_xfn rfl
    refine mm_xk (S' := (14, [some (.ref 30), some (.int (xs 1)), some (.int (xs 2)), some (.int (xs 3)), some (.int (xs 4)), some (.int (xs 5)), none], [.int 65535, .int 0, .int (xs 2)], (mm_fw3 (mm_zi 5) (.inr (10, mm_fw3f30 (.int 0))) (mm_zi 5) [.inr (11, [])]))) 4 3000 rfl ?_
    refine mm_xcl (v := (some (.int 0))) (w1 := (mm_fw3 (mm_zi 5) (.inr (10, mm_fw3f30 (.int 0))) (mm_zi 5) [.inr (11, [])])) rfl ?_ ?_
    · skip
      refine mm_xk (S' := (2, [some (.int (xs 2)), some (.int 0), some (.int 65535)], [.int 0, .int (xs 2)], (mm_fw3 (mm_zi 5) (.inr (10, mm_fw3f30 (.int 0))) (mm_zi 5) [.inr (11, [])]))) 2 3000 rfl ?_
      refine mm_xif2 rfl true (mm_lt1 (a := (xs 2).toInt) (b := 0) rfl rfl (by omega)) rfl ?_
      refine mm_xk (S' := (15, [some (.int (xs 2)), some (.int 0), some (.int 65535)], [.int 0], (mm_fw3 (mm_zi 5) (.inr (10, mm_fw3f30 (.int 0))) (mm_zi 5) [.inr (11, [])]))) 1 3000 rfl ?_
      exact mm_xfn rfl
    refine mm_xk (S' := (81, [some (.ref 30), some (.int (xs 1)), some (.int (xs 2)), some (.int (xs 3)), some (.int (xs 4)), some (.int (xs 5)), some (.int 0)], [], (mm_fw3 (mm_zi 5) (.inr (10, mm_fw3f30 (.int 1))) (mm_zi 5) [.inr (11, [])]))) 8 3000 rfl ?_
    refine mm_xk (S' := (88, [some (.ref 30), some (.int (xs 1)), some (.int (xs 2)), some (.int (xs 3)), some (.int (xs 4)), some (.int (xs 5)), some (.int 0)], [], (mm_fw3 (mm_zi 5) (.inr (10, mm_fw3f30 (.int 1))) (mm_zi 5) [.inr (11, [])]))) 3 3000 rfl ?_
    exact mm_xfn rfl
  refine mm_xk (S' := (1092, [some (.ref 1000004), some (.ref 0), some (.ref 30), some (.ref 47), some (.int 9), some (.int 1), none], [], (mm_fw3 (mm_zi 5) (.inr (10, mm_fw3f30 (.int 1))) (mm_zi 5) [.inr (11, [])]))) 6 3000 rfl ?_
  refine mm_xk (S' := (1096, [some (.ref 1000004), some (.ref 0), some (.ref 30), some (.ref 47), some (.int 9), some (.int 1), none], [.int 1], (mm_fw3 (mm_zi 5) (.inr (10, mm_fw3f30 (.int 1))) (mm_zi 5) [.inr (11, [])]))) 8 3000 rfl ?_
  exact mm_xfn rfl
set_option maxRecDepth 100000 in
set_option maxHeartbeats 4000000 in
theorem mm_lf3_11 (xs : Nat → Int32) (u1 : (xs 1).toInt ≤ -1) : mm_Ok xs 398 := by
  refine mm_Ok_of (w' := ((mm_w0.set 30 (.inr (10, (mm_f30.set 0 (.int 1))))) ++ [.inr (11, [])])) (mm_szP 6 (mm_szS 63 mm_sz0 rfl) rfl) rfl rfl ?_
  refine mm_xk (S' := (429, [some (.ref 1000004), some (.ref 0), some (.ref 30), some (.ref 47), some (.int 0), none, none], [.int (xs 5), .int (xs 4), .int (xs 3), .int (xs 2), .int (xs 1), .ref 0], (mm_fw3 (mm_zi 5) (.inr (10, mm_fw3f30 (.int 0))) (mm_zi 5) []))) 26 3000 rfl ?_
  refine mm_xcl (v := (some (.int 1))) (w1 := (mm_fw3 (mm_zi 5) (.inr (10, mm_fw3f30 (.int 0))) (mm_zi 5) [.inr (11, [])])) rfl ?_ ?_
  · skip
    refine mm_xk (S' := (8, [some (.ref 0), some (.int (xs 1)), some (.int (xs 2)), some (.int (xs 3)), some (.int (xs 4)), some (.int (xs 5)), none], [.int (xs 5), .int (xs 4), .int (xs 3), .int (xs 2), .int (xs 1), .ref 0], (mm_fw3 (mm_zi 5) (.inr (10, mm_fw3f30 (.int 0))) (mm_zi 5) []))) 6 3000 rfl ?_
    refine mm_xct (x := 11) (hp := 14) (w1 := (mm_fw3 (mm_zi 5) (.inr (10, mm_fw3f30 (.int 0))) (mm_zi 5) [.inr (11, [])])) rfl ?_ rfl ?_
    · skip
      refine mm_xk (S' := (1, [some (.ref 0), some (.int (xs 1)), some (.int (xs 2)), some (.int (xs 3)), some (.int (xs 4)), some (.int (xs 5))], [.int (xs 1)], (mm_fw3 (mm_zi 5) (.inr (10, mm_fw3f30 (.int 0))) (mm_zi 5) []))) 1 3000 rfl ?_
      refine mm_xcl (v := (some (.int 0))) (w1 := (mm_fw3 (mm_zi 5) (.inr (10, mm_fw3f30 (.int 0))) (mm_zi 5) [])) rfl ?_ ?_
      · skip
        refine mm_xk (S' := (1, [some (.int (xs 1))], [.int (xs 1)], (mm_fw3 (mm_zi 5) (.inr (10, mm_fw3f30 (.int 0))) (mm_zi 5) []))) 1 3000 rfl ?_
        refine mm_xif1 rfl true (mm_lt1 (a := (xs 1).toInt) (b := 0) rfl rfl (by omega)) rfl ?_
        refine mm_xk (S' := (15, [some (.int (xs 1))], [.int 0], (mm_fw3 (mm_zi 5) (.inr (10, mm_fw3f30 (.int 0))) (mm_zi 5) []))) 1 3000 rfl ?_
        exact mm_xfn rfl
      refine mm_xk (S' := (48, [some (.ref 0), some (.int (xs 1)), some (.int (xs 2)), some (.int (xs 3)), some (.int (xs 4)), some (.int (xs 5))], [], (mm_fw3 (mm_zi 5) (.inr (10, mm_fw3f30 (.int 0))) (mm_zi 5) []))) 1 3000 rfl ?_
      exact mm_xfn rfl
    refine mm_xk (S' := (17, [some (.ref 0), some (.int (xs 1)), some (.int (xs 2)), some (.int (xs 3)), some (.int (xs 4)), some (.int (xs 5)), some (.ref 48)], [.int 1], (mm_fw3 (mm_zi 5) (.inr (10, mm_fw3f30 (.int 0))) (mm_zi 5) [.inr (11, [])]))) 2 3000 rfl ?_
    exact mm_xfn rfl
  refine mm_xk (S' := (465, [some (.ref 1000004), some (.ref 0), some (.ref 30), some (.ref 47), some (.int 0), some (.int 1), none], [.int (xs 5), .int (xs 4), .int (xs 3), .int (xs 2), .int (xs 1), .ref 30], (mm_fw3 (mm_zi 5) (.inr (10, mm_fw3f30 (.int 0))) (mm_zi 5) [.inr (11, [])]))) 27 3000 rfl ?_
  refine mm_xcl (v := none) (w1 := (mm_fw3 (mm_zi 5) (.inr (10, mm_fw3f30 (.int 1))) (mm_zi 5) [.inr (11, [])])) rfl ?_ ?_
  · skip
    refine mm_xk (S' := (4, [some (.ref 30), some (.int (xs 1)), some (.int (xs 2)), some (.int (xs 3)), some (.int (xs 4)), some (.int (xs 5)), none], [.int 65535, .int 0, .int (xs 1)], (mm_fw3 (mm_zi 5) (.inr (10, mm_fw3f30 (.int 0))) (mm_zi 5) [.inr (11, [])]))) 3 3000 rfl ?_
    refine mm_xcl (v := (some (.int 0))) (w1 := (mm_fw3 (mm_zi 5) (.inr (10, mm_fw3f30 (.int 0))) (mm_zi 5) [.inr (11, [])])) rfl ?_ ?_
    · skip
      refine mm_xk (S' := (2, [some (.int (xs 1)), some (.int 0), some (.int 65535)], [.int 0, .int (xs 1)], (mm_fw3 (mm_zi 5) (.inr (10, mm_fw3f30 (.int 0))) (mm_zi 5) [.inr (11, [])]))) 2 3000 rfl ?_
      refine mm_xif2 rfl true (mm_lt1 (a := (xs 1).toInt) (b := 0) rfl rfl (by omega)) rfl ?_
      refine mm_xk (S' := (15, [some (.int (xs 1)), some (.int 0), some (.int 65535)], [.int 0], (mm_fw3 (mm_zi 5) (.inr (10, mm_fw3f30 (.int 0))) (mm_zi 5) [.inr (11, [])]))) 1 3000 rfl ?_
      exact mm_xfn rfl
    refine mm_xk (S' := (81, [some (.ref 30), some (.int (xs 1)), some (.int (xs 2)), some (.int (xs 3)), some (.int (xs 4)), some (.int (xs 5)), some (.int 0)], [], (mm_fw3 (mm_zi 5) (.inr (10, mm_fw3f30 (.int 1))) (mm_zi 5) [.inr (11, [])]))) 8 3000 rfl ?_
    refine mm_xk (S' := (88, [some (.ref 30), some (.int (xs 1)), some (.int (xs 2)), some (.int (xs 3)), some (.int (xs 4)), some (.int (xs 5)), some (.int 0)], [], (mm_fw3 (mm_zi 5) (.inr (10, mm_fw3f30 (.int 1))) (mm_zi 5) [.inr (11, [])]))) 3 3000 rfl ?_
    exact mm_xfn rfl
  refine mm_xk (S' := (1092, [some (.ref 1000004), some (.ref 0), some (.ref 30), some (.ref 47), some (.int 9), some (.int 1), none], [], (mm_fw3 (mm_zi 5) (.inr (10, mm_fw3f30 (.int 1))) (mm_zi 5) [.inr (11, [])]))) 6 3000 rfl ?_
  refine mm_xk (S' := (1096, [some (.ref 1000004), some (.ref 0), some (.ref 30), some (.ref 47), some (.int 9), some (.int 1), none], [.int 1], (mm_fw3 (mm_zi 5) (.inr (10, mm_fw3f30 (.int 1))) (mm_zi 5) [.inr (11, [])]))) 8 3000 rfl ?_
  exact mm_xfn rfl
