/-! what packing and unpacking have in common, for the one that unpacks -/
def hrm (Y : YT) (fh fa : Nat → Int) : Prop := hrl Y fh fa
def rwm (g f : Nat → Int) : Prop := rwh g f
set_option maxRecDepth 100000 in
set_option maxHeartbeats 4000000 in
theorem u_openRow {g : Nat → Int} {Zi : Nat → Option (Nat × (Nat → Int))} {d n q : Nat} {D : Nat → Nat × Nat} {s : Nat → Int} {p : Nat → Nat} {c : Nat → Nat → Int} (hd : 0 ≤ d) (hz : zk Zi) (hq : q + 0 ≤ 400000) (hD : wd n p) (hS : bS s) (hC : bC D c) (hW : wp q g n D p s) (T : Nat → Int) (y : Int) (hp0 : hE T (s 2106) y (c (p 2104))) (hp1 : 1 ≤ s 2106) : tt Zi d 35 (0, [some (.inr (.inl 21)), none], [], n, D, s, p, c) (fun R H => ∃ (p' : Nat → Nat) (c' : Nat → Nat → Int), R = .inl none ∧ H = (n, D, s, p', c') ∧ bC D c' ∧ wp q g n D p' s ∧ frp p p' [2103, 2104] ∧ fk p c n p' c' [2103, 2104] ∧ (hrm (T, s 2106, 0, y) (c' (p' 2104)) (c' (p' 2103)))) := by
  have b1 : 0 ≤ (s 2106) ∧ (s 2106) ≤ 64 := hS 2106
  have hne : p 2103 ≠ p 2104 := hD.2 2103 (by decide) 2104 (by decide) (by decide)
  refine tt_k 14 (S' := (24, [some (.inr (.inl 21)), some (.inr (.inl (p 2103)))], [.inr (.inl 21), .inl 0, .inr (.inl (p 2103))], n, D, s, (up (up p 2103 (p 2104)) 2104 (p 2103)), c)) rfl ?_
  refine tt_k 2 (S' := (28, [some (.inr (.inl 21)), some (.inr (.inl (p 2103)))], [.inl 1, .inr (.inl (p 2104)), .inl 0, .inr (.inl (p 2103))], n, D, s, (up (up p 2103 (p 2104)) 2104 (p 2103)), c)) rfl ?_
  refine tt_ilb (i := 1) (m := 66) (lo := 0) (hi := 65535) rfl ((sw_arr (hW).a21 rfl rfl).2) (by omega) hC ((sw_21 (hW).a21).2) ?_
  intro v2 b3 hvv2
  show tt Zi d 35 (29, [some (.inr (.inl 21)), some (.inr (.inl (p 2103)))], [.inl v2, .inl 0, .inr (.inl (p 2103))], n, D, s, (up (up p 2103 (p 2104)) 2104 (p 2103)), c) _
  refine tt_isb (i := 0) (m := 66) (lo := 0) (hi := 65535) (x := v2) rfl ((sw_arr (hW).a21 rfl rfl).1) (by omega) hC ((sw_21 (hW).a21).1) (by omega) ?_
  intro c4 hC4 ec4
  show tt Zi d 35 (30, [some (.inr (.inl 21)), some (.inr (.inl (p 2103)))], [], n, D, s, (up (up p 2103 (p 2104)) 2104 (p 2103)), c4) _
  have FK5 : fk p c n (up (up p 2103 (p 2104)) 2104 (p 2103)) c4 [2103, 2104] := fk_st (k := 2104) (fk_sw (k := 2103) (j := 2104) (fk_rf hD) (by decide)) ec4 (by decide) rfl
  refine tt_k 10 (S' := (48, [some (.inr (.inl 21)), some (.inr (.inl (p 2103)))], [.inl (s 2106), .inr (.inl (p 2104)), .inl ((s 2106) + 1), .inr (.inl (p 2104))], n, D, s, (up (up p 2103 (p 2104)) 2104 (p 2103)), c4)) rfl ?_
  refine tt_ilb (i := (s 2106)) (m := 66) (lo := 0) (hi := 65535) rfl ((sw_arr (hW).a21 rfl rfl).2) (by omega) hC4 ((sw_21 (hW).a21).2) ?_
  intro v6 b7 hvv6
  show tt Zi d 35 (49, [some (.inr (.inl 21)), some (.inr (.inl (p 2103)))], [.inl v6, .inl ((s 2106) + 1), .inr (.inl (p 2104))], n, D, s, (up (up p 2103 (p 2104)) 2104 (p 2103)), c4) _
  refine tt_isb (i := ((s 2106) + 1)) (m := 66) (lo := 0) (hi := 65535) (x := v6) rfl ((sw_arr (hW).a21 rfl rfl).2) (by omega) hC4 ((sw_21 (hW).a21).2) (by omega) ?_
  intro c8 hC8 ec8
  show tt Zi d 35 (50, [some (.inr (.inl 21)), some (.inr (.inl (p 2103)))], [], n, D, s, (up (up p 2103 (p 2104)) 2104 (p 2103)), c8) _
  have FK9 : fk p c n (up (up p 2103 (p 2104)) 2104 (p 2103)) c8 [2103, 2104] := fk_st (k := 2103) FK5 ec8 (by decide) rfl
  exact tt_rtv rfl rfl ⟨(up (up p 2103 (p 2104)) 2104 (p 2103)), c8, rfl, rfl, hC8, (wp_sw21 hW), (frp_up (by decide) (frp_up (by decide) frp_rf)), FK9, by show hrm (T, s 2106, 0, y) (c8 (p 2103)) (c8 (p 2104)); exact or_hr (v1 := v2) (v2 := v6) (f := c (p 2104)) (g := c (p 2103)) hp0 (by omega) hne (by rw [← hvv2]; rfl) (by rw [← hvv6, ec4, uc_ne hne.symm]) (by rw [ec8, uc_ne hne, ec4, uc_eq]; rfl) (by rw [ec8, uc_eq, ec4, uc_ne hne.symm])⟩
set_option maxRecDepth 100000 in
set_option maxHeartbeats 4000000 in
theorem u_look {g : Nat → Int} {Zi : Nat → Option (Nat × (Nat → Int))} {d n q : Nat} {D : Nat → Nat × Nat} {s : Nat → Int} {p : Nat → Nat} {c : Nat → Nat → Int} (hd : 1 ≤ d) (hz : zk Zi) (hq : q + 2 ≤ 400000) (hD : wd n p) (hS : bS s) (hC : bC D c) (hW : wp q g n D p s) (Z : Nat → Int) (Y : YT) (x : Int) (b_x : 0 ≤ x ∧ x ≤ 63) (hp0 : hrm Y (c (p 2104)) (c (p 2103))) (hp1 : zq Z (s 800) (s 801) (s 802) (s 803) (s 804) (s 805) (s 806) (s 807) (s 808) (s 809)) (hp2 : x = Y.2.2.1 ∧ x < Y.2.1 ∧ Y.2.1 ≤ 64 ∧ 0 ≤ Y.2.2.2) : tt Zi d 36 (0, [some (.inr (.inl 21)), some (.inl x), none], [], n, D, s, p, c) (fun R H => ∃ (s' : Nat → Int), R = .inl none ∧ H = (n, D, s', p, c) ∧ bS s' ∧ wp q g n D p s' ∧ fr s s' [2108, 2109, 2110, 2111, 2115] ∧ (s' 2108 = nA Y.1 x Y.2.2.2) ∧ (s' 2109 = nB Y.1 x Y.2.2.2) ∧ (s' 2110 = nC Y.1 x Y.2.2.2) ∧ (s' 2115 = (if gsm Z (nA Y.1 x Y.2.2.2) (nB Y.1 x Y.2.2.2) (nC Y.1 x Y.2.2.2) (nD Y.1 Y.2.1 x Y.2.2.2) < 0 then 1 else 0)) ∧ (s' 2111 = fA (gsm Z (nA Y.1 x Y.2.2.2) (nB Y.1 x Y.2.2.2) (nC Y.1 x Y.2.2.2) (nD Y.1 Y.2.1 x Y.2.2.2)))) := by
  refine tt_k 4 (S' := (6, [some (.inr (.inl 21)), some (.inl x), none], [.inl x, .inr (.inl (p 2104)), .inr (.inl 21)], n, D, s, p, c)) rfl ?_
  refine tt_ilb (i := x) (m := 66) (lo := 0) (hi := 65535) rfl ((sw_arr (hW).a21 rfl rfl).2) (by omega) hC ((sw_21 (hW).a21).2) ?_
  intro v1 b2 hvv1
  show tt Zi d 36 (7, [some (.inr (.inl 21)), some (.inl x), none], [.inl v1, .inr (.inl 21)], n, D, s, p, c) _
  have hwv1 : v1 = nA Y.1 x Y.2.2.2 := by rw [← hvv1]; exact hr_a hp0 (by omega) (by omega) (by omega)
  refine tt_k 7 (S' := (18, [some (.inr (.inl 21)), some (.inl x), none], [.inl (x + 1), .inr (.inl (p 2103)), .inr (.inl 21)], n, D, (us s 2108 v1), p, c)) rfl ?_
  refine tt_ilb (i := (x + 1)) (m := 66) (lo := 0) (hi := 65535) rfl ((sw_arr (hW).a21 rfl rfl).1) (by omega) hC ((sw_21 (hW).a21).1) ?_
  intro v3 b4 hvv3
  show tt Zi d 36 (19, [some (.inr (.inl 21)), some (.inl x), none], [.inl v3, .inr (.inl 21)], n, D, (us s 2108 v1), p, c) _
  have hwv3 : v3 = nB Y.1 x Y.2.2.2 := by rw [← hvv3]; exact hr_b hp0 (by omega) (by omega) (by omega)
  refine tt_k 5 (S' := (28, [some (.inr (.inl 21)), some (.inl x), none], [.inl x, .inr (.inl (p 2103)), .inr (.inl 21)], n, D, (us (us s 2108 v1) 2109 v3), p, c)) rfl ?_
  refine tt_ilb (i := x) (m := 66) (lo := 0) (hi := 65535) rfl ((sw_arr (hW).a21 rfl rfl).1) (by omega) hC ((sw_21 (hW).a21).1) ?_
  intro v5 b6 hvv5
  show tt Zi d 36 (29, [some (.inr (.inl 21)), some (.inl x), none], [.inl v5, .inr (.inl 21)], n, D, (us (us s 2108 v1) 2109 v3), p, c) _
  have hwv5 : v5 = nC Y.1 x Y.2.2.2 := by rw [← hvv5]; exact hr_c hp0 (by omega) (by omega) (by omega)
  refine tt_k 9 (S' := (45, [some (.inr (.inl 21)), some (.inl x), none], [.inl (x + 2), .inr (.inl (p 2103)), .inr (.inl 8), .inl 81], n, D, (us (us (us s 2108 v1) 2109 v3) 2110 v5), p, c)) rfl ?_
  refine tt_ilb (i := (x + 2)) (m := 66) (lo := 0) (hi := 65535) rfl ((sw_arr (hW).a21 rfl rfl).1) (by omega) hC ((sw_21 (hW).a21).1) ?_
  intro v7 b8 hvv7
  show tt Zi d 36 (46, [some (.inr (.inl 21)), some (.inl x), none], [.inl v7, .inr (.inl 8), .inl 81], n, D, (us (us (us s 2108 v1) 2109 v3) 2110 v5), p, c) _
  have hwv7 : v7 = nD Y.1 Y.2.1 x Y.2.2.2 := by rw [← hvv7]; exact hr_d hp0 (by omega) (by omega) (by omega)
  refine tt_k 3 (S' := (51, [some (.inr (.inl 21)), some (.inl x), none], [.inl (v7 - v3), .inr (.inl 8), .inl 81], n, D, (us (us (us s 2108 v1) 2109 v3) 2110 v5), p, c)) rfl ?_
  have b9 : 0 ≤ (s 800) ∧ (s 800) ≤ 65535 := hS 800
  have b10 : -2147483648 ≤ (s 801) ∧ (s 801) ≤ 2147483647 := hS 801
  have b11 : -2147483648 ≤ (s 802) ∧ (s 802) ≤ 2147483647 := hS 802
  have b12 : -2147483648 ≤ (s 803) ∧ (s 803) ≤ 2147483647 := hS 803
  have b13 : -2147483648 ≤ (s 804) ∧ (s 804) ≤ 2147483647 := hS 804
  have b14 : 0 ≤ (s 805) ∧ (s 805) ≤ 65535 := hS 805
  have b15 : 1 ≤ (s 806) ∧ (s 806) ≤ 511 := hS 806
  have b16 : 0 ≤ (s 807) ∧ (s 807) ≤ 65536 := hS 807
  have b17 : 0 ≤ (s 808) ∧ (s 808) ≤ 30 := hS 808
  have b18 : 0 ≤ (s 809) ∧ (s 809) ≤ 64 := hS 809
  refine tt_cl (by omega) rfl (e_grade (Zi := Zi) (q := q) (n := n) (D := D) (s := (us (us (us s 2108 v1) 2109 v3) 2110 v5)) (p := p) (c := c) (by omega) hz (by omega) hD (bS_us (bS_us (bS_us hS (show 0 ≤ v1 ∧ v1 ≤ 65535 by omega)) (show 0 ≤ v3 ∧ v3 ≤ 65535 by omega)) (show 0 ≤ v5 ∧ v5 ≤ 65535 by omega)) hC (wp_us (by decide) (wp_us (by decide) (wp_us (by decide) hW))) Z (v7 - v3) (by omega) hp1) ?_
  rintro _ _ ⟨r19, rfl, rfl, b20, k21⟩
  show tt Zi d 36 (54, [some (.inr (.inl 21)), some (.inl x), none], [.inl r19, .inl 81], n, D, (us (us (us s 2108 v1) 2109 v3) 2110 v5), p, c) _
  replace k21 : r19 = fG Z (v7 - v3) := k21
  refine tt_k 9 (S' := (70, [some (.inr (.inl 21)), some (.inl x), none], [.inl (v3 - v5), .inr (.inl 8), .inl 9, .inl (81 * r19)], n, D, (us (us (us s 2108 v1) 2109 v3) 2110 v5), p, c)) rfl ?_
  refine tt_cl (by omega) rfl (e_grade (Zi := Zi) (q := q) (n := n) (D := D) (s := (us (us (us s 2108 v1) 2109 v3) 2110 v5)) (p := p) (c := c) (by omega) hz (by omega) hD (bS_us (bS_us (bS_us hS (show 0 ≤ v1 ∧ v1 ≤ 65535 by omega)) (show 0 ≤ v3 ∧ v3 ≤ 65535 by omega)) (show 0 ≤ v5 ∧ v5 ≤ 65535 by omega)) hC (wp_us (by decide) (wp_us (by decide) (wp_us (by decide) hW))) Z (v3 - v5) (by omega) hp1) ?_
  rintro _ _ ⟨r22, rfl, rfl, b23, k24⟩
  show tt Zi d 36 (73, [some (.inr (.inl 21)), some (.inl x), none], [.inl r22, .inl 9, .inl (81 * r19)], n, D, (us (us (us s 2108 v1) 2109 v3) 2110 v5), p, c) _
  replace k24 : r22 = fG Z (v3 - v5) := k24
  refine tt_k 9 (S' := (88, [some (.inr (.inl 21)), some (.inl x), none], [.inl (v5 - v1), .inr (.inl 8), .inl ((81 * r19) + (9 * r22))], n, D, (us (us (us s 2108 v1) 2109 v3) 2110 v5), p, c)) rfl ?_
  refine tt_cl (by omega) rfl (e_grade (Zi := Zi) (q := q) (n := n) (D := D) (s := (us (us (us s 2108 v1) 2109 v3) 2110 v5)) (p := p) (c := c) (by omega) hz (by omega) hD (bS_us (bS_us (bS_us hS (show 0 ≤ v1 ∧ v1 ≤ 65535 by omega)) (show 0 ≤ v3 ∧ v3 ≤ 65535 by omega)) (show 0 ≤ v5 ∧ v5 ≤ 65535 by omega)) hC (wp_us (by decide) (wp_us (by decide) (wp_us (by decide) hW))) Z (v5 - v1) (by omega) hp1) ?_
  rintro _ _ ⟨r25, rfl, rfl, b26, k27⟩
  show tt Zi d 36 (91, [some (.inr (.inl 21)), some (.inl x), none], [.inl r25, .inl ((81 * r19) + (9 * r22))], n, D, (us (us (us s 2108 v1) 2109 v3) 2110 v5), p, c) _
  replace k27 : r25 = fG Z (v5 - v1) := k27
  refine tt_k 1 (S' := (92, [some (.inr (.inl 21)), some (.inl x), none], [.inl ((((81 * r19) + (9 * r22)) + r25))], n, D, (us (us (us s 2108 v1) 2109 v3) 2110 v5), p, c)) rfl ?_
  have hsum : (((81 * r19) + (9 * r22)) + r25) = gsm Z (nA Y.1 x Y.2.2.2) (nB Y.1 x Y.2.2.2) (nC Y.1 x Y.2.2.2) (nD Y.1 Y.2.1 x Y.2.2.2) := by unfold gsm; rw [← hwv1, ← hwv3, ← hwv5, ← hwv7, k21, k24, k27]
  refine tt_k 3 (S' := (95, [some (.inr (.inl 21)), some (.inl x), some (.inl ((((81 * r19) + (9 * r22)) + r25)))], [.inl ((((81 * r19) + (9 * r22)) + r25)), .inr (.inl 21)], n, D, (us (us (us s 2108 v1) 2109 v3) 2110 v5), p, c)) rfl ?_
  have K29 : ∀ (j28 : Int) , (0 ≤ j28 ∧ j28 ≤ 1) → (j28 = (if (((81 * r19) + (9 * r22)) + r25) < 0 then 1 else 0)) → (True) → tt Zi d 36 (103, [some (.inr (.inl 21)), some (.inl x), some (.inl ((((81 * r19) + (9 * r22)) + r25)))], [.inl j28, .inr (.inl 21)], n, D, (us (us (us s 2108 v1) 2109 v3) 2110 v5), p, c) (fun R H => ∃ (s' : Nat → Int), R = .inl none ∧ H = (n, D, s', p, c) ∧ bS s' ∧ wp q g n D p s' ∧ fr s s' [2108, 2109, 2110, 2111, 2115] ∧ (s' 2108 = nA Y.1 x Y.2.2.2) ∧ (s' 2109 = nB Y.1 x Y.2.2.2) ∧ (s' 2110 = nC Y.1 x Y.2.2.2) ∧ (s' 2115 = (if gsm Z (nA Y.1 x Y.2.2.2) (nB Y.1 x Y.2.2.2) (nC Y.1 x Y.2.2.2) (nD Y.1 Y.2.1 x Y.2.2.2) < 0 then 1 else 0)) ∧ (s' 2111 = fA (gsm Z (nA Y.1 x Y.2.2.2) (nB Y.1 x Y.2.2.2) (nC Y.1 x Y.2.2.2) (nD Y.1 Y.2.1 x Y.2.2.2)))) := by
    intro j28 b31 b32 hj30
    refine tt_ptb (x := j28) rfl rfl rfl rfl rfl (by omega) ?_
    show tt Zi d 36 (106, [some (.inr (.inl 21)), some (.inl x), some (.inl ((((81 * r19) + (9 * r22)) + r25)))], [], n, D, (us (us (us (us s 2108 v1) 2109 v3) 2110 v5) 2115 j28), p, c) _
    refine tt_k 2 (S' := (108, [some (.inr (.inl 21)), some (.inl x), some (.inl ((((81 * r19) + (9 * r22)) + r25)))], [.inl ((((81 * r19) + (9 * r22)) + r25)), .inr (.inl 21)], n, D, (us (us (us (us s 2108 v1) 2109 v3) 2110 v5) 2115 j28), p, c)) rfl ?_
    refine tt_abs (k := 0) (x := (((81 * r19) + (9 * r22)) + r25)) rfl rfl (Nat.le_of_ble_eq_true rfl) (by omega) ?_
    show tt Zi d 36 (111, [some (.inr (.inl 21)), some (.inl x), some (.inl ((((81 * r19) + (9 * r22)) + r25)))], [.inl ((if 0 ≤ (((81 * r19) + (9 * r22)) + r25) then (((81 * r19) + (9 * r22)) + r25) else -(((81 * r19) + (9 * r22)) + r25))), .inr (.inl 21)], n, D, (us (us (us (us s 2108 v1) 2109 v3) 2110 v5) 2115 j28), p, c) _
    refine tt_k 1 (S' := (114, [some (.inr (.inl 21)), some (.inl x), some (.inl ((((81 * r19) + (9 * r22)) + r25)))], [], n, D, (us (us (us (us (us s 2108 v1) 2109 v3) 2110 v5) 2115 j28) 2111 ((if 0 ≤ (((81 * r19) + (9 * r22)) + r25) then (((81 * r19) + (9 * r22)) + r25) else -(((81 * r19) + (9 * r22)) + r25)))), p, c)) rfl ?_
    exact tt_rtv rfl rfl ⟨(us (us (us (us (us s 2108 v1) 2109 v3) 2110 v5) 2115 j28) 2111 ((if 0 ≤ (((81 * r19) + (9 * r22)) + r25) then (((81 * r19) + (9 * r22)) + r25) else -(((81 * r19) + (9 * r22)) + r25)))), rfl, rfl, (bS_us (bS_us (bS_us (bS_us (bS_us hS (show 0 ≤ v1 ∧ v1 ≤ 65535 by omega)) (show 0 ≤ v3 ∧ v3 ≤ 65535 by omega)) (show 0 ≤ v5 ∧ v5 ≤ 65535 by omega)) (show 0 ≤ j28 ∧ j28 ≤ 1 by omega)) (show 0 ≤ (if 0 ≤ (((81 * r19) + (9 * r22)) + r25) then (((81 * r19) + (9 * r22)) + r25) else -(((81 * r19) + (9 * r22)) + r25)) ∧ (if 0 ≤ (((81 * r19) + (9 * r22)) + r25) then (((81 * r19) + (9 * r22)) + r25) else -(((81 * r19) + (9 * r22)) + r25)) ≤ 366 by omega)), (wp_us (by decide) (wp_us (by decide) (wp_us (by decide) (wp_us (by decide) (wp_us (by decide) hW))))), (fr_us (by decide) (fr_us (by decide) (fr_us (by decide) (fr_us (by decide) (fr_us (by decide) fr_rf))))), by show v1 = nA Y.1 x Y.2.2.2; exact hwv1, by show v3 = nB Y.1 x Y.2.2.2; exact hwv3, by show v5 = nC Y.1 x Y.2.2.2; exact hwv5, by show j28 = (if gsm Z (nA Y.1 x Y.2.2.2) (nB Y.1 x Y.2.2.2) (nC Y.1 x Y.2.2.2) (nD Y.1 Y.2.1 x Y.2.2.2) < 0 then 1 else 0); rw [b32, hsum], by show ((if 0 ≤ (((81 * r19) + (9 * r22)) + r25) then (((81 * r19) + (9 * r22)) + r25) else -(((81 * r19) + (9 * r22)) + r25))) = fA (gsm Z (nA Y.1 x Y.2.2.2) (nB Y.1 x Y.2.2.2) (nC Y.1 x Y.2.2.2) (nD Y.1 Y.2.1 x Y.2.2.2)); unfold fA; rw [← hsum]⟩
  refine tz_ge (x := (((81 * r19) + (9 * r22)) + r25)) rfl rfl (by omega) (fun h33 => ?_) (fun h33 => ?_)
  · show tt Zi d 36 (102, [some (.inr (.inl 21)), some (.inl x), some (.inl ((((81 * r19) + (9 * r22)) + r25)))], [.inr (.inl 21)], n, D, (us (us (us s 2108 v1) 2109 v3) 2110 v5), p, c) _
    refine tt_k 1 (S' := (103, [some (.inr (.inl 21)), some (.inl x), some (.inl ((((81 * r19) + (9 * r22)) + r25)))], [.inl 0, .inr (.inl 21)], n, D, (us (us (us s 2108 v1) 2109 v3) 2110 v5), p, c)) rfl ?_
    exact K29 0  (by omega) (by first | rw [if_pos (by omega)] | rw [if_neg (by omega)]) (trivial)
  · show tt Zi d 36 (98, [some (.inr (.inl 21)), some (.inl x), some (.inl ((((81 * r19) + (9 * r22)) + r25)))], [.inr (.inl 21)], n, D, (us (us (us s 2108 v1) 2109 v3) 2110 v5), p, c) _
    refine tt_k 2 (S' := (103, [some (.inr (.inl 21)), some (.inl x), some (.inl ((((81 * r19) + (9 * r22)) + r25)))], [.inl 1, .inr (.inl 21)], n, D, (us (us (us s 2108 v1) 2109 v3) 2110 v5), p, c)) rfl ?_
    exact K29 1  (by omega) (by first | rw [if_pos (by omega)] | rw [if_neg (by omega)]) (trivial)
set_option maxRecDepth 100000 in
set_option maxHeartbeats 4000000 in
theorem u_aim {g : Nat → Int} {Zi : Nat → Option (Nat × (Nat → Int))} {d n q : Nat} {D : Nat → Nat × Nat} {s : Nat → Int} {p : Nat → Nat} {c : Nat → Nat → Int} (hd : 1 ≤ d) (hz : zk Zi) (hq : q + 2 ≤ 400000) (hD : wd n p) (hS : bS s) (hC : bC D c) (hW : wp q g n D p s) (t : Int) (Z : Nat → Int) (M : MT) (hp0 : mrc M (c (p 901))) (hp1 : zq Z (s 800) (s 801) (s 802) (s 803) (s 804) (s 805) (s 806) (s 807) (s 808) (s 809)) (hp2 : mv Z) (hp3 : pl Z t M) (hp4 : 0 ≤ t ∧ t ≤ 4095) : tt Zi d 38 (0, [some (.inr (.inl 21)), none, none, none, none], [], n, D, s, p, c) (fun R H => ∃ (s' : Nat → Int), R = .inl none ∧ H = (n, D, s', p, c) ∧ bS s' ∧ wp q g n D p s' ∧ fr s s' [2113, 2114, 2116] ∧ (s' 2114 = gR Z (s 2108) (s 2109) (s 2110) (s 2115) (s 2111).toNat M) ∧ (s' 2113 = ke (M 36 (s 2111).toNat) (M 39 (s 2111).toNat)) ∧ (s' 2116 = oR Z (s 2111).toNat M)) := by
  have hzq := hp1
  obtain ⟨z0, z1, z2, z3, z4, z5, z6, z7, z8, z9⟩ := hzq
  have mvx := mv_fx (s := Z) hp2
  have b1 : 0 ≤ (s 2111) ∧ (s 2111) ≤ 366 := hS 2111
  have hb := pl_bd (s := Z) (c := M) (i := (s 2111).toNat) hp2 (by omega) (hp3 (s 2111).toNat (by omega))
  refine tt_k 4 (S' := (8, [some (.inr (.inl 21)), none, none, none, none], [.inl (s 2109), .inl (s 2108)], n, D, s, p, c)) rfl ?_
  have b2 : 0 ≤ (s 2108) ∧ (s 2108) ≤ 65535 := hS 2108
  have b3 : 0 ≤ (s 2109) ∧ (s 2109) ≤ 65535 := hS 2109
  refine tt_min (k := 0) (x := (s 2108)) (y := (s 2109)) rfl rfl (Nat.le_of_ble_eq_true rfl) (by omega) ?_
  refine tt_k 5 (S' := (20, [some (.inr (.inl 21)), some (.inl (min (s 2108) (s 2109))), none, none, none], [.inl (s 2109), .inl (s 2108)], n, D, s, p, c)) rfl ?_
  refine tt_max (k := 0) (x := (s 2108)) (y := (s 2109)) rfl rfl (Nat.le_of_ble_eq_true rfl) (by omega) ?_
  refine tt_k 4 (S' := (29, [some (.inr (.inl 21)), some (.inl (min (s 2108) (s 2109))), some (.inl (max (s 2108) (s 2109))), none, none], [.inl (max (s 2108) (s 2109)), .inl (s 2110)], n, D, s, p, c)) rfl ?_
  have b4 : 0 ≤ (s 2110) ∧ (s 2110) ≤ 65535 := hS 2110
  have K6 : ∀ (j5 : Int) , (-65534 ≤ j5 ∧ j5 ≤ 131069) → (j5 = fP (s 2108) (s 2109) (s 2110)) → (True) → tt Zi d 38 (62, [some (.inr (.inl 21)), some (.inl (min (s 2108) (s 2109))), some (.inl (max (s 2108) (s 2109))), none, none], [.inl j5], n, D, s, p, c) (fun R H => ∃ (s' : Nat → Int), R = .inl none ∧ H = (n, D, s', p, c) ∧ bS s' ∧ wp q g n D p s' ∧ fr s s' [2113, 2114, 2116] ∧ (s' 2114 = gR Z (s 2108) (s 2109) (s 2110) (s 2115) (s 2111).toNat M) ∧ (s' 2113 = ke (M 36 (s 2111).toNat) (M 39 (s 2111).toNat)) ∧ (s' 2116 = oR Z (s 2111).toNat M)) := by
    intro j5 b8 b9 hj7
    refine tt_k 5 (S' := (71, [some (.inr (.inl 21)), some (.inl (min (s 2108) (s 2109))), some (.inl (max (s 2108) (s 2109))), some (.inl j5), none], [.inl (s 2111), .inr (.inl 9)], n, D, s, p, c)) rfl ?_
    refine tt_cl (by omega) rfl (e_correction (Zi := Zi) (q := q) (n := n) (D := D) (s := s) (p := p) (c := c) (by omega) hz (by omega) hD hS hC hW M (s 2111) (by omega) hp0) ?_
    rintro _ _ ⟨r10, rfl, rfl, b11, k12⟩
    show tt Zi d 38 (74, [some (.inr (.inl 21)), some (.inl (min (s 2108) (s 2109))), some (.inl (max (s 2108) (s 2109))), some (.inl j5), none], [.inl r10], n, D, s, p, c) _
    replace k12 : r10 = M 38 (s 2111).toNat := k12
    refine tt_k 6 (S' := (85, [some (.inr (.inl 21)), some (.inl (min (s 2108) (s 2109))), some (.inl (max (s 2108) (s 2109))), some (.inl j5), some (.inl r10)], [.inl (s 2115), .inr (.inl 8), .inr (.inl 21)], n, D, s, p, c)) rfl ?_
    have b13 : 0 ≤ (s 2115) ∧ (s 2115) ≤ 1 := hS 2115
    have K15 : ∀ (j14 : Int) , (-2147549182 ≤ j14 ∧ j14 ≤ 2147614717) → (j14 = (if s 2115 = 1 then j5 - r10 else j5 + r10)) → (True) → tt Zi d 38 (99, [some (.inr (.inl 21)), some (.inl (min (s 2108) (s 2109))), some (.inl (max (s 2108) (s 2109))), some (.inl j5), some (.inl r10)], [.inl j14, .inr (.inl 8), .inr (.inl 21)], n, D, s, p, c) (fun R H => ∃ (s' : Nat → Int), R = .inl none ∧ H = (n, D, s', p, c) ∧ bS s' ∧ wp q g n D p s' ∧ fr s s' [2113, 2114, 2116] ∧ (s' 2114 = gR Z (s 2108) (s 2109) (s 2110) (s 2115) (s 2111).toNat M) ∧ (s' 2113 = ke (M 36 (s 2111).toNat) (M 39 (s 2111).toNat)) ∧ (s' 2116 = oR Z (s 2111).toNat M)) := by
      intro j14 b17 b18 hj16
      have b19 : 0 ≤ (s 800) ∧ (s 800) ≤ 65535 := hS 800
      have b20 : -2147483648 ≤ (s 801) ∧ (s 801) ≤ 2147483647 := hS 801
      have b21 : -2147483648 ≤ (s 802) ∧ (s 802) ≤ 2147483647 := hS 802
      have b22 : -2147483648 ≤ (s 803) ∧ (s 803) ≤ 2147483647 := hS 803
      have b23 : -2147483648 ≤ (s 804) ∧ (s 804) ≤ 2147483647 := hS 804
      have b24 : 0 ≤ (s 805) ∧ (s 805) ≤ 65535 := hS 805
      have b25 : 1 ≤ (s 806) ∧ (s 806) ≤ 511 := hS 806
      have b26 : 0 ≤ (s 807) ∧ (s 807) ≤ 65536 := hS 807
      have b27 : 0 ≤ (s 808) ∧ (s 808) ≤ 30 := hS 808
      have b28 : 0 ≤ (s 809) ∧ (s 809) ≤ 64 := hS 809
      refine tt_cl (by omega) rfl (e_within (Zi := Zi) (q := q) (n := n) (D := D) (s := s) (p := p) (c := c) (by omega) hz (by omega) hD hS hC hW Z j14 (by omega) hp1) ?_
      rintro _ _ ⟨r29, rfl, rfl, b30, k31⟩
      show tt Zi d 38 (102, [some (.inr (.inl 21)), some (.inl (min (s 2108) (s 2109))), some (.inl (max (s 2108) (s 2109))), some (.inl j5), some (.inl r10)], [.inl r29, .inr (.inl 21)], n, D, s, p, c) _
      replace k31 : r29 = fW Z j14 := k31
      have hgr : r29 = gR Z (s 2108) (s 2109) (s 2110) (s 2115) (s 2111).toNat M := by rw [k31]; unfold gR; rw [b18, b9, k12]
      refine tt_k 7 (S' := (115, [some (.inr (.inl 21)), some (.inl (min (s 2108) (s 2109))), some (.inl (max (s 2108) (s 2109))), some (.inl j5), some (.inl r10)], [.inl 0, .inl (s 2111), .inr (.inl 9), .inr (.inl 21)], n, D, (us s 2114 r29), p, c)) rfl ?_
      refine tt_cl (by omega) rfl (e_lowBits (Zi := Zi) (q := q) (n := n) (D := D) (s := (us s 2114 r29)) (p := p) (c := c) (by omega) hz (by omega) hD (bS_us hS (show 0 ≤ r29 ∧ r29 ≤ 65535 by omega)) hC (wp_us (by decide) hW) t Z M (s 2111) 0 (by omega) (by omega) hp0 hp2 hp3 hp4) ?_
      rintro _ _ ⟨r32, rfl, rfl, b33, k34⟩
      show tt Zi d 38 (118, [some (.inr (.inl 21)), some (.inl (min (s 2108) (s 2109))), some (.inl (max (s 2108) (s 2109))), some (.inl j5), some (.inl r10)], [.inl r32, .inr (.inl 21)], n, D, (us s 2114 r29), p, c) _
      replace k34 : r32 = ke (M 36 (s 2111).toNat + (if 0 = 1 then M 39 (s 2111).toNat / 2 else 0)) (M 39 (s 2111).toNat) := k34
      have hkk : r32 = ke (M 36 (s 2111).toNat) (M 39 (s 2111).toNat) := by have h := k34; rw [if_neg (by decide), Int.add_zero] at h; exact h
      clear k34
      refine tt_k 5 (S' := (129, [some (.inr (.inl 21)), some (.inl (min (s 2108) (s 2109))), some (.inl (max (s 2108) (s 2109))), some (.inl j5), some (.inl r10)], [.inl (s 801), .inr (.inl 21)], n, D, (us (us s 2114 r29) 2113 r32), p, c)) rfl ?_
      have K36 : ∀ (j35 : Int) , (0 ≤ j35 ∧ j35 ≤ 1) → (j35 = oR Z (s 2111).toNat M) → (True) → tt Zi d 38 (158, [some (.inr (.inl 21)), some (.inl (min (s 2108) (s 2109))), some (.inl (max (s 2108) (s 2109))), some (.inl j5), some (.inl r10)], [.inl j35, .inr (.inl 21)], n, D, (us (us s 2114 r29) 2113 r32), p, c) (fun R H => ∃ (s' : Nat → Int), R = .inl none ∧ H = (n, D, s', p, c) ∧ bS s' ∧ wp q g n D p s' ∧ fr s s' [2113, 2114, 2116] ∧ (s' 2114 = gR Z (s 2108) (s 2109) (s 2110) (s 2115) (s 2111).toNat M) ∧ (s' 2113 = ke (M 36 (s 2111).toNat) (M 39 (s 2111).toNat)) ∧ (s' 2116 = oR Z (s 2111).toNat M)) := by
        intro j35 b38 b39 hj37
        refine tt_ptb (x := j35) rfl rfl rfl rfl rfl (by omega) ?_
        show tt Zi d 38 (161, [some (.inr (.inl 21)), some (.inl (min (s 2108) (s 2109))), some (.inl (max (s 2108) (s 2109))), some (.inl j5), some (.inl r10)], [], n, D, (us (us (us s 2114 r29) 2113 r32) 2116 j35), p, c) _
        exact tt_rtv rfl rfl ⟨(us (us (us s 2114 r29) 2113 r32) 2116 j35), rfl, rfl, (bS_us (bS_us (bS_us hS (show 0 ≤ r29 ∧ r29 ≤ 65535 by omega)) (show 0 ≤ r32 ∧ r32 ≤ 30 by omega)) (show 0 ≤ j35 ∧ j35 ≤ 1 by omega)), (wp_us (by decide) (wp_us (by decide) (wp_us (by decide) hW))), (fr_us (by decide) (fr_us (by decide) (fr_us (by decide) fr_rf))), by show r29 = gR Z (s 2108) (s 2109) (s 2110) (s 2115) (s 2111).toNat M; exact hgr, by show r32 = ke (M 36 (s 2111).toNat) (M 39 (s 2111).toNat); exact hkk, by show j35 = oR Z (s 2111).toNat M; exact b39⟩
      refine tz_ne (x := (s 801)) rfl rfl (by omega) (fun h40 => ?_) (fun h40 => ?_)
      · show tt Zi d 38 (157, [some (.inr (.inl 21)), some (.inl (min (s 2108) (s 2109))), some (.inl (max (s 2108) (s 2109))), some (.inl j5), some (.inl r10)], [.inr (.inl 21)], n, D, (us (us s 2114 r29) 2113 r32), p, c) _
        refine tt_k 1 (S' := (158, [some (.inr (.inl 21)), some (.inl (min (s 2108) (s 2109))), some (.inl (max (s 2108) (s 2109))), some (.inl j5), some (.inl r10)], [.inl 0, .inr (.inl 21)], n, D, (us (us s 2114 r29) 2113 r32), p, c)) rfl ?_
        exact K36 0  (by omega) (by unfold oR; rw [← hkk, ← z1]; first | rw [if_pos (by omega)] | rw [if_neg (by omega)]) (trivial)
      · show tt Zi d 38 (132, [some (.inr (.inl 21)), some (.inl (min (s 2108) (s 2109))), some (.inl (max (s 2108) (s 2109))), some (.inl j5), some (.inl r10)], [.inr (.inl 21)], n, D, (us (us s 2114 r29) 2113 r32), p, c) _
        refine tt_k 2 (S' := (136, [some (.inr (.inl 21)), some (.inl (min (s 2108) (s 2109))), some (.inl (max (s 2108) (s 2109))), some (.inl j5), some (.inl r10)], [.inl r32, .inr (.inl 21)], n, D, (us (us s 2114 r29) 2113 r32), p, c)) rfl ?_
        refine tz_ne (x := r32) rfl rfl (by omega) (fun h41 => ?_) (fun h41 => ?_)
        · show tt Zi d 38 (157, [some (.inr (.inl 21)), some (.inl (min (s 2108) (s 2109))), some (.inl (max (s 2108) (s 2109))), some (.inl j5), some (.inl r10)], [.inr (.inl 21)], n, D, (us (us s 2114 r29) 2113 r32), p, c) _
          refine tt_k 1 (S' := (158, [some (.inr (.inl 21)), some (.inl (min (s 2108) (s 2109))), some (.inl (max (s 2108) (s 2109))), some (.inl j5), some (.inl r10)], [.inl 0, .inr (.inl 21)], n, D, (us (us s 2114 r29) 2113 r32), p, c)) rfl ?_
          exact K36 0  (by omega) (by unfold oR; rw [← hkk, ← z1]; first | rw [if_pos (by omega)] | rw [if_neg (by omega)]) (trivial)
        · show tt Zi d 38 (139, [some (.inr (.inl 21)), some (.inl (min (s 2108) (s 2109))), some (.inl (max (s 2108) (s 2109))), some (.inl j5), some (.inl r10)], [.inr (.inl 21)], n, D, (us (us s 2114 r29) 2113 r32), p, c) _
          refine tt_k 4 (S' := (147, [some (.inr (.inl 21)), some (.inl (min (s 2108) (s 2109))), some (.inl (max (s 2108) (s 2109))), some (.inl j5), some (.inl r10)], [.inl (s 2111), .inr (.inl 9), .inr (.inl 21)], n, D, (us (us s 2114 r29) 2113 r32), p, c)) rfl ?_
          refine tt_cl (by omega) rfl (e_leansLow (Zi := Zi) (q := q) (n := n) (D := D) (s := (us (us s 2114 r29) 2113 r32)) (p := p) (c := c) (by omega) hz (by omega) hD (bS_us (bS_us hS (show 0 ≤ r29 ∧ r29 ≤ 65535 by omega)) (show 0 ≤ r32 ∧ r32 ≤ 30 by omega)) hC (wp_us (by decide) (wp_us (by decide) hW)) t Z M (s 2111) (by omega) hp0 hp2 hp3 hp4) ?_
          rintro _ _ ⟨r42, rfl, rfl, b43, k44⟩
          show tt Zi d 38 (150, [some (.inr (.inl 21)), some (.inl (min (s 2108) (s 2109))), some (.inl (max (s 2108) (s 2109))), some (.inl j5), some (.inl r10)], [.inl r42, .inr (.inl 21)], n, D, (us (us s 2114 r29) 2113 r32), p, c) _
          replace k44 : r42 = 1 ↔ 2 * M 37 (s 2111).toNat ≤ -(M 39 (s 2111).toNat) := k44
          refine tz_eq (x := r42) rfl rfl (by omega) (fun h45 => ?_) (fun h45 => ?_)
          · show tt Zi d 38 (157, [some (.inr (.inl 21)), some (.inl (min (s 2108) (s 2109))), some (.inl (max (s 2108) (s 2109))), some (.inl j5), some (.inl r10)], [.inr (.inl 21)], n, D, (us (us s 2114 r29) 2113 r32), p, c) _
            refine tt_k 1 (S' := (158, [some (.inr (.inl 21)), some (.inl (min (s 2108) (s 2109))), some (.inl (max (s 2108) (s 2109))), some (.inl j5), some (.inl r10)], [.inl 0, .inr (.inl 21)], n, D, (us (us s 2114 r29) 2113 r32), p, c)) rfl ?_
            exact K36 0  (by omega) (by unfold oR; rw [← hkk, ← z1]; first | rw [if_pos (by omega)] | rw [if_neg (by omega)]) (trivial)
          · show tt Zi d 38 (153, [some (.inr (.inl 21)), some (.inl (min (s 2108) (s 2109))), some (.inl (max (s 2108) (s 2109))), some (.inl j5), some (.inl r10)], [.inr (.inl 21)], n, D, (us (us s 2114 r29) 2113 r32), p, c) _
            refine tt_k 2 (S' := (158, [some (.inr (.inl 21)), some (.inl (min (s 2108) (s 2109))), some (.inl (max (s 2108) (s 2109))), some (.inl j5), some (.inl r10)], [.inl 1, .inr (.inl 21)], n, D, (us (us s 2114 r29) 2113 r32), p, c)) rfl ?_
            exact K36 1  (by omega) (by unfold oR; rw [← hkk, ← z1]; first | rw [if_pos (by omega)] | rw [if_neg (by omega)]) (trivial)
    refine tz_eq (x := (s 2115)) rfl rfl (by omega) (fun h46 => ?_) (fun h46 => ?_)
    · show tt Zi d 38 (95, [some (.inr (.inl 21)), some (.inl (min (s 2108) (s 2109))), some (.inl (max (s 2108) (s 2109))), some (.inl j5), some (.inl r10)], [.inr (.inl 8), .inr (.inl 21)], n, D, s, p, c) _
      refine tt_k 3 (S' := (99, [some (.inr (.inl 21)), some (.inl (min (s 2108) (s 2109))), some (.inl (max (s 2108) (s 2109))), some (.inl j5), some (.inl r10)], [.inl (j5 + r10), .inr (.inl 8), .inr (.inl 21)], n, D, s, p, c)) rfl ?_
      exact K15 (j5 + r10)  (by omega) (by first | rw [if_pos (by omega)] | rw [if_neg (by omega)]) (trivial)
    · show tt Zi d 38 (88, [some (.inr (.inl 21)), some (.inl (min (s 2108) (s 2109))), some (.inl (max (s 2108) (s 2109))), some (.inl j5), some (.inl r10)], [.inr (.inl 8), .inr (.inl 21)], n, D, s, p, c) _
      refine tt_k 4 (S' := (99, [some (.inr (.inl 21)), some (.inl (min (s 2108) (s 2109))), some (.inl (max (s 2108) (s 2109))), some (.inl j5), some (.inl r10)], [.inl (j5 - r10), .inr (.inl 8), .inr (.inl 21)], n, D, s, p, c)) rfl ?_
      exact K15 (j5 - r10)  (by omega) (by first | rw [if_pos (by omega)] | rw [if_neg (by omega)]) (trivial)
  refine tb_lt (x := (s 2110)) (y := (max (s 2108) (s 2109))) rfl rfl (by omega) (fun h47 => ?_) (fun h47 => ?_)
  · show tt Zi d 38 (36, [some (.inr (.inl 21)), some (.inl (min (s 2108) (s 2109))), some (.inl (max (s 2108) (s 2109))), none, none], [], n, D, s, p, c) _
    refine tt_k 3 (S' := (41, [some (.inr (.inl 21)), some (.inl (min (s 2108) (s 2109))), some (.inl (max (s 2108) (s 2109))), none, none], [.inl (min (s 2108) (s 2109)), .inl (s 2110)], n, D, s, p, c)) rfl ?_
    refine tb_gt (x := (s 2110)) (y := (min (s 2108) (s 2109))) rfl rfl (by omega) (fun h48 => ?_) (fun h48 => ?_)
    · show tt Zi d 38 (48, [some (.inr (.inl 21)), some (.inl (min (s 2108) (s 2109))), some (.inl (max (s 2108) (s 2109))), none, none], [], n, D, s, p, c) _
      refine tt_k 8 (S' := (62, [some (.inr (.inl 21)), some (.inl (min (s 2108) (s 2109))), some (.inl (max (s 2108) (s 2109))), none, none], [.inl ((((s 2108) + (s 2109)) - (s 2110)))], n, D, s, p, c)) rfl ?_
      exact K6 ((((s 2108) + (s 2109)) - (s 2110)))  (by omega) (by unfold fP; (repeat' split) <;> omega) (trivial)
    · show tt Zi d 38 (44, [some (.inr (.inl 21)), some (.inl (min (s 2108) (s 2109))), some (.inl (max (s 2108) (s 2109))), none, none], [], n, D, s, p, c) _
      refine tt_k 2 (S' := (62, [some (.inr (.inl 21)), some (.inl (min (s 2108) (s 2109))), some (.inl (max (s 2108) (s 2109))), none, none], [.inl (max (s 2108) (s 2109))], n, D, s, p, c)) rfl ?_
      exact K6 (max (s 2108) (s 2109))  (by omega) (by unfold fP; (repeat' split) <;> omega) (trivial)
  · show tt Zi d 38 (32, [some (.inr (.inl 21)), some (.inl (min (s 2108) (s 2109))), some (.inl (max (s 2108) (s 2109))), none, none], [], n, D, s, p, c) _
    refine tt_k 2 (S' := (62, [some (.inr (.inl 21)), some (.inl (min (s 2108) (s 2109))), some (.inl (max (s 2108) (s 2109))), none, none], [.inl (min (s 2108) (s 2109))], n, D, s, p, c)) rfl ?_
    exact K6 (min (s 2108) (s 2109))  (by omega) (by unfold fP; (repeat' split) <;> omega) (trivial)
set_option maxRecDepth 100000 in
set_option maxHeartbeats 4000000 in
theorem u_aimStop {g : Nat → Int} {Zi : Nat → Option (Nat × (Nat → Int))} {d n q : Nat} {D : Nat → Nat × Nat} {s : Nat → Int} {p : Nat → Nat} {c : Nat → Nat → Int} (hd : 1 ≤ d) (hz : zk Zi) (hq : q + 2 ≤ 400000) (hD : wd n p) (hS : bS s) (hC : bC D c) (hW : wp q g n D p s) (t : Int) (Z : Nat → Int) (M : MT) (Y : YT) (x : Int) (b_x : 0 ≤ x ∧ x ≤ 63) (hp0 : hrm Y (c (p 2104)) (c (p 2103))) (hp1 : mrc M (c (p 901))) (hp2 : zq Z (s 800) (s 801) (s 802) (s 803) (s 804) (s 805) (s 806) (s 807) (s 808) (s 809)) (hp3 : mv Z) (hp4 : pl Z t M) (hp5 : 0 ≤ t ∧ t ≤ 4095) (hp6 : x = Y.2.2.1 ∧ x < Y.2.1 ∧ Y.2.1 ≤ 64 ∧ 0 ≤ Y.2.2.2) : tt Zi d 67 (0, [some (.inr (.inl 21)), some (.inl x)], [], n, D, s, p, c) (fun R H => ∃ (s' : Nat → Int), R = .inl none ∧ H = (n, D, s', p, c) ∧ bS s' ∧ wp q g n D p s' ∧ fr s s' [2109, 2111, 2112, 2113, 2114, 2115, 2116] ∧ (s' 2112 = sS Z (s 2108) (nB Y.1 x Y.2.2.2)) ∧ (s' 2111 = 365 + sS Z (s 2108) (nB Y.1 x Y.2.2.2)) ∧ (s' 2114 = gS Z (s 2108) (nB Y.1 x Y.2.2.2)) ∧ (s' 2115 = tS Z (s 2108) (nB Y.1 x Y.2.2.2)) ∧ (s' 2113 = kS M (sS Z (s 2108) (nB Y.1 x Y.2.2.2))) ∧ (s' 2116 = oS M (sS Z (s 2108) (nB Y.1 x Y.2.2.2)))) := by
  have hzq := hp2
  obtain ⟨z0, z1, z2, z3, z4, z5, z6, z7, z8, z9⟩ := hzq
  have mvx := mv_fx (s := Z) hp3
  have b1 : 0 ≤ (s 2108) ∧ (s 2108) ≤ 65535 := hS 2108
  refine tt_k 6 (S' := (8, [some (.inr (.inl 21)), some (.inl x)], [.inl (x + 1), .inr (.inl (p 2103)), .inr (.inl 21)], n, D, s, p, c)) rfl ?_
  refine tt_ilb (i := (x + 1)) (m := 66) (lo := 0) (hi := 65535) rfl ((sw_arr (hW).a21 rfl rfl).1) (by omega) hC ((sw_21 (hW).a21).1) ?_
  intro v2 b3 hvv2
  show tt Zi d 67 (9, [some (.inr (.inl 21)), some (.inl x)], [.inl v2, .inr (.inl 21)], n, D, s, p, c) _
  have hwb : v2 = (nB Y.1 x Y.2.2.2) := by rw [← hvv2]; exact hr_b hp0 (by omega) (by omega) (by omega)
  subst hwb
  show tt Zi d 67 (9, [some (.inr (.inl 21)), some (.inl x)], [.inl (nB Y.1 x Y.2.2.2), .inr (.inl 21)], n, D, s, p, c) _
  refine tt_k 7 (S' := (22, [some (.inr (.inl 21)), some (.inl x)], [.inl ((s 2108) - (nB Y.1 x Y.2.2.2)), .inr (.inl 21)], n, D, (us s 2109 (nB Y.1 x Y.2.2.2)), p, c)) rfl ?_
  refine tt_abs (k := 0) (x := ((s 2108) - (nB Y.1 x Y.2.2.2))) rfl rfl (Nat.le_of_ble_eq_true rfl) (by omega) ?_
  show tt Zi d 67 (25, [some (.inr (.inl 21)), some (.inl x)], [.inl ((if 0 ≤ ((s 2108) - (nB Y.1 x Y.2.2.2)) then ((s 2108) - (nB Y.1 x Y.2.2.2)) else -((s 2108) - (nB Y.1 x Y.2.2.2)))), .inr (.inl 21)], n, D, (us s 2109 (nB Y.1 x Y.2.2.2)), p, c) _
  refine tt_k 3 (S' := (32, [some (.inr (.inl 21)), some (.inl x)], [.inl (s 801), .inl ((if 0 ≤ ((s 2108) - (nB Y.1 x Y.2.2.2)) then ((s 2108) - (nB Y.1 x Y.2.2.2)) else -((s 2108) - (nB Y.1 x Y.2.2.2)))), .inr (.inl 21)], n, D, (us s 2109 (nB Y.1 x Y.2.2.2)), p, c)) rfl ?_
  have b4 : -2147483648 ≤ (s 801) ∧ (s 801) ≤ 2147483647 := hS 801
  have K6 : ∀ (j5 : Int) , (0 ≤ j5 ∧ j5 ≤ 1) → (j5 = sS Z (s 2108) (nB Y.1 x Y.2.2.2)) → (True) → tt Zi d 67 (40, [some (.inr (.inl 21)), some (.inl x)], [.inl j5, .inr (.inl 21)], n, D, (us s 2109 (nB Y.1 x Y.2.2.2)), p, c) (fun R H => ∃ (s' : Nat → Int), R = .inl none ∧ H = (n, D, s', p, c) ∧ bS s' ∧ wp q g n D p s' ∧ fr s s' [2109, 2111, 2112, 2113, 2114, 2115, 2116] ∧ (s' 2112 = sS Z (s 2108) (nB Y.1 x Y.2.2.2)) ∧ (s' 2111 = 365 + sS Z (s 2108) (nB Y.1 x Y.2.2.2)) ∧ (s' 2114 = gS Z (s 2108) (nB Y.1 x Y.2.2.2)) ∧ (s' 2115 = tS Z (s 2108) (nB Y.1 x Y.2.2.2)) ∧ (s' 2113 = kS M (sS Z (s 2108) (nB Y.1 x Y.2.2.2))) ∧ (s' 2116 = oS M (sS Z (s 2108) (nB Y.1 x Y.2.2.2)))) := by
    intro j5 b8 b9 hj7
    refine tt_k 11 (S' := (61, [some (.inr (.inl 21)), some (.inl x)], [.inl 1, .inl j5, .inr (.inl 21)], n, D, (us (us (us s 2109 (nB Y.1 x Y.2.2.2)) 2112 j5) 2111 (365 + j5)), p, c)) rfl ?_
    have K11 : ∀ (j10 : Int) , (0 ≤ j10 ∧ j10 ≤ 65535) → (j10 = gS Z (s 2108) (nB Y.1 x Y.2.2.2)) → (True) → tt Zi d 67 (75, [some (.inr (.inl 21)), some (.inl x)], [.inl j10, .inr (.inl 21)], n, D, (us (us (us s 2109 (nB Y.1 x Y.2.2.2)) 2112 j5) 2111 (365 + j5)), p, c) (fun R H => ∃ (s' : Nat → Int), R = .inl none ∧ H = (n, D, s', p, c) ∧ bS s' ∧ wp q g n D p s' ∧ fr s s' [2109, 2111, 2112, 2113, 2114, 2115, 2116] ∧ (s' 2112 = sS Z (s 2108) (nB Y.1 x Y.2.2.2)) ∧ (s' 2111 = 365 + sS Z (s 2108) (nB Y.1 x Y.2.2.2)) ∧ (s' 2114 = gS Z (s 2108) (nB Y.1 x Y.2.2.2)) ∧ (s' 2115 = tS Z (s 2108) (nB Y.1 x Y.2.2.2)) ∧ (s' 2113 = kS M (sS Z (s 2108) (nB Y.1 x Y.2.2.2))) ∧ (s' 2116 = oS M (sS Z (s 2108) (nB Y.1 x Y.2.2.2)))) := by
      intro j10 b13 b14 hj12
      refine tt_k 4 (S' := (83, [some (.inr (.inl 21)), some (.inl x)], [.inl j5, .inr (.inl 21)], n, D, (us (us (us (us s 2109 (nB Y.1 x Y.2.2.2)) 2112 j5) 2111 (365 + j5)) 2114 j10), p, c)) rfl ?_
      have K16 : ∀ (j15 : Int) , (0 ≤ j15 ∧ j15 ≤ 1) → (j15 = tS Z (s 2108) (nB Y.1 x Y.2.2.2)) → (True) → tt Zi d 67 (102, [some (.inr (.inl 21)), some (.inl x)], [.inl j15, .inr (.inl 21)], n, D, (us (us (us (us s 2109 (nB Y.1 x Y.2.2.2)) 2112 j5) 2111 (365 + j5)) 2114 j10), p, c) (fun R H => ∃ (s' : Nat → Int), R = .inl none ∧ H = (n, D, s', p, c) ∧ bS s' ∧ wp q g n D p s' ∧ fr s s' [2109, 2111, 2112, 2113, 2114, 2115, 2116] ∧ (s' 2112 = sS Z (s 2108) (nB Y.1 x Y.2.2.2)) ∧ (s' 2111 = 365 + sS Z (s 2108) (nB Y.1 x Y.2.2.2)) ∧ (s' 2114 = gS Z (s 2108) (nB Y.1 x Y.2.2.2)) ∧ (s' 2115 = tS Z (s 2108) (nB Y.1 x Y.2.2.2)) ∧ (s' 2113 = kS M (sS Z (s 2108) (nB Y.1 x Y.2.2.2))) ∧ (s' 2116 = oS M (sS Z (s 2108) (nB Y.1 x Y.2.2.2)))) := by
        intro j15 b18 b19 hj17
        refine tt_ptb (x := j15) rfl rfl rfl rfl rfl (by omega) ?_
        show tt Zi d 67 (105, [some (.inr (.inl 21)), some (.inl x)], [], n, D, (us (us (us (us (us s 2109 (nB Y.1 x Y.2.2.2)) 2112 j5) 2111 (365 + j5)) 2114 j10) 2115 j15), p, c) _
        refine tt_k 8 (S' := (119, [some (.inr (.inl 21)), some (.inl x)], [.inl 1, .inl j5, .inl (365 + j5), .inr (.inl 9), .inr (.inl 21)], n, D, (us (us (us (us (us s 2109 (nB Y.1 x Y.2.2.2)) 2112 j5) 2111 (365 + j5)) 2114 j10) 2115 j15), p, c)) rfl ?_
        have K21 : ∀ (j20 : Int) , (0 ≤ j20 ∧ j20 ≤ 1) → (j20 = j5) → (True) → tt Zi d 67 (127, [some (.inr (.inl 21)), some (.inl x)], [.inl j20, .inl (365 + j5), .inr (.inl 9), .inr (.inl 21)], n, D, (us (us (us (us (us s 2109 (nB Y.1 x Y.2.2.2)) 2112 j5) 2111 (365 + j5)) 2114 j10) 2115 j15), p, c) (fun R H => ∃ (s' : Nat → Int), R = .inl none ∧ H = (n, D, s', p, c) ∧ bS s' ∧ wp q g n D p s' ∧ fr s s' [2109, 2111, 2112, 2113, 2114, 2115, 2116] ∧ (s' 2112 = sS Z (s 2108) (nB Y.1 x Y.2.2.2)) ∧ (s' 2111 = 365 + sS Z (s 2108) (nB Y.1 x Y.2.2.2)) ∧ (s' 2114 = gS Z (s 2108) (nB Y.1 x Y.2.2.2)) ∧ (s' 2115 = tS Z (s 2108) (nB Y.1 x Y.2.2.2)) ∧ (s' 2113 = kS M (sS Z (s 2108) (nB Y.1 x Y.2.2.2))) ∧ (s' 2116 = oS M (sS Z (s 2108) (nB Y.1 x Y.2.2.2)))) := by
          intro j20 b23 b24 hj22
          refine tt_cl (by omega) rfl (e_lowBits (Zi := Zi) (q := q) (n := n) (D := D) (s := (us (us (us (us (us s 2109 (nB Y.1 x Y.2.2.2)) 2112 j5) 2111 (365 + j5)) 2114 j10) 2115 j15)) (p := p) (c := c) (by omega) hz (by omega) hD (bS_us (bS_us (bS_us (bS_us (bS_us hS (show 0 ≤ (nB Y.1 x Y.2.2.2) ∧ (nB Y.1 x Y.2.2.2) ≤ 65535 by omega)) (show 0 ≤ j5 ∧ j5 ≤ 1 by omega)) (show 0 ≤ (365 + j5) ∧ (365 + j5) ≤ 366 by omega)) (show 0 ≤ j10 ∧ j10 ≤ 65535 by omega)) (show 0 ≤ j15 ∧ j15 ≤ 1 by omega)) hC (wp_us (by decide) (wp_us (by decide) (wp_us (by decide) (wp_us (by decide) (wp_us (by decide) hW))))) t Z M (365 + j5) j20 (by omega) (by omega) hp1 hp3 hp4 hp5) ?_
          rintro _ _ ⟨r25, rfl, rfl, b26, k27⟩
          show tt Zi d 67 (130, [some (.inr (.inl 21)), some (.inl x)], [.inl r25, .inr (.inl 21)], n, D, (us (us (us (us (us s 2109 (nB Y.1 x Y.2.2.2)) 2112 j5) 2111 (365 + j5)) 2114 j10) 2115 j15), p, c) _
          replace k27 : r25 = ke (M 36 (365 + j5).toNat + (if j20 = 1 then M 39 (365 + j5).toNat / 2 else 0)) (M 39 (365 + j5).toNat) := k27
          have hkk : r25 = kS M (sS Z (s 2108) (nB Y.1 x Y.2.2.2)) := by rw [k27]; unfold kS; rw [b24, b9]
          clear k27
          refine tt_k 4 (S' := (138, [some (.inr (.inl 21)), some (.inl x)], [.inl r25, .inr (.inl 21)], n, D, (us (us (us (us (us (us s 2109 (nB Y.1 x Y.2.2.2)) 2112 j5) 2111 (365 + j5)) 2114 j10) 2115 j15) 2113 r25), p, c)) rfl ?_
          have K29 : ∀ (j28 : Int) , (0 ≤ j28 ∧ j28 ≤ 1) → (j28 = oS M (sS Z (s 2108) (nB Y.1 x Y.2.2.2))) → (True) → tt Zi d 67 (160, [some (.inr (.inl 21)), some (.inl x)], [.inl j28, .inr (.inl 21)], n, D, (us (us (us (us (us (us s 2109 (nB Y.1 x Y.2.2.2)) 2112 j5) 2111 (365 + j5)) 2114 j10) 2115 j15) 2113 r25), p, c) (fun R H => ∃ (s' : Nat → Int), R = .inl none ∧ H = (n, D, s', p, c) ∧ bS s' ∧ wp q g n D p s' ∧ fr s s' [2109, 2111, 2112, 2113, 2114, 2115, 2116] ∧ (s' 2112 = sS Z (s 2108) (nB Y.1 x Y.2.2.2)) ∧ (s' 2111 = 365 + sS Z (s 2108) (nB Y.1 x Y.2.2.2)) ∧ (s' 2114 = gS Z (s 2108) (nB Y.1 x Y.2.2.2)) ∧ (s' 2115 = tS Z (s 2108) (nB Y.1 x Y.2.2.2)) ∧ (s' 2113 = kS M (sS Z (s 2108) (nB Y.1 x Y.2.2.2))) ∧ (s' 2116 = oS M (sS Z (s 2108) (nB Y.1 x Y.2.2.2)))) := by
            intro j28 b31 b32 hj30
            refine tt_ptb (x := j28) rfl rfl rfl rfl rfl (by omega) ?_
            show tt Zi d 67 (163, [some (.inr (.inl 21)), some (.inl x)], [], n, D, (us (us (us (us (us (us (us s 2109 (nB Y.1 x Y.2.2.2)) 2112 j5) 2111 (365 + j5)) 2114 j10) 2115 j15) 2113 r25) 2116 j28), p, c) _
            exact tt_rtv rfl rfl ⟨(us (us (us (us (us (us (us s 2109 (nB Y.1 x Y.2.2.2)) 2112 j5) 2111 (365 + j5)) 2114 j10) 2115 j15) 2113 r25) 2116 j28), rfl, rfl, (bS_us (bS_us (bS_us (bS_us (bS_us (bS_us (bS_us hS (show 0 ≤ (nB Y.1 x Y.2.2.2) ∧ (nB Y.1 x Y.2.2.2) ≤ 65535 by omega)) (show 0 ≤ j5 ∧ j5 ≤ 1 by omega)) (show 0 ≤ (365 + j5) ∧ (365 + j5) ≤ 366 by omega)) (show 0 ≤ j10 ∧ j10 ≤ 65535 by omega)) (show 0 ≤ j15 ∧ j15 ≤ 1 by omega)) (show 0 ≤ r25 ∧ r25 ≤ 30 by omega)) (show 0 ≤ j28 ∧ j28 ≤ 1 by omega)), (wp_us (by decide) (wp_us (by decide) (wp_us (by decide) (wp_us (by decide) (wp_us (by decide) (wp_us (by decide) (wp_us (by decide) hW))))))), (fr_us (by decide) (fr_us (by decide) (fr_us (by decide) (fr_us (by decide) (fr_us (by decide) (fr_us (by decide) (fr_us (by decide) fr_rf))))))), by show j5 = sS Z (s 2108) (nB Y.1 x Y.2.2.2); exact b9, by show (365 + j5) = 365 + sS Z (s 2108) (nB Y.1 x Y.2.2.2); rw [b9], by show j10 = gS Z (s 2108) (nB Y.1 x Y.2.2.2); exact b14, by show j15 = tS Z (s 2108) (nB Y.1 x Y.2.2.2); exact b19, by show r25 = kS M (sS Z (s 2108) (nB Y.1 x Y.2.2.2)); exact hkk, by show j28 = oS M (sS Z (s 2108) (nB Y.1 x Y.2.2.2)); exact b32⟩
          refine tz_ne (x := r25) rfl rfl (by omega) (fun h33 => ?_) (fun h33 => ?_)
          · show tt Zi d 67 (159, [some (.inr (.inl 21)), some (.inl x)], [.inr (.inl 21)], n, D, (us (us (us (us (us (us s 2109 (nB Y.1 x Y.2.2.2)) 2112 j5) 2111 (365 + j5)) 2114 j10) 2115 j15) 2113 r25), p, c) _
            refine tt_k 1 (S' := (160, [some (.inr (.inl 21)), some (.inl x)], [.inl 0, .inr (.inl 21)], n, D, (us (us (us (us (us (us s 2109 (nB Y.1 x Y.2.2.2)) 2112 j5) 2111 (365 + j5)) 2114 j10) 2115 j15) 2113 r25), p, c)) rfl ?_
            exact K29 0  (by omega) (by unfold oS; rw [← hkk, ← b9]; first | rw [if_pos (by omega)] | rw [if_neg (by omega)]) (trivial)
          · show tt Zi d 67 (141, [some (.inr (.inl 21)), some (.inl x)], [.inr (.inl 21)], n, D, (us (us (us (us (us (us s 2109 (nB Y.1 x Y.2.2.2)) 2112 j5) 2111 (365 + j5)) 2114 j10) 2115 j15) 2113 r25), p, c) _
            refine tt_k 4 (S' := (149, [some (.inr (.inl 21)), some (.inl x)], [.inl (365 + j5), .inr (.inl 9), .inr (.inl 21)], n, D, (us (us (us (us (us (us s 2109 (nB Y.1 x Y.2.2.2)) 2112 j5) 2111 (365 + j5)) 2114 j10) 2115 j15) 2113 r25), p, c)) rfl ?_
            refine tt_cl (by omega) rfl (e_isSeldom (Zi := Zi) (q := q) (n := n) (D := D) (s := (us (us (us (us (us (us s 2109 (nB Y.1 x Y.2.2.2)) 2112 j5) 2111 (365 + j5)) 2114 j10) 2115 j15) 2113 r25)) (p := p) (c := c) (by omega) hz (by omega) hD (bS_us (bS_us (bS_us (bS_us (bS_us (bS_us hS (show 0 ≤ (nB Y.1 x Y.2.2.2) ∧ (nB Y.1 x Y.2.2.2) ≤ 65535 by omega)) (show 0 ≤ j5 ∧ j5 ≤ 1 by omega)) (show 0 ≤ (365 + j5) ∧ (365 + j5) ≤ 366 by omega)) (show 0 ≤ j10 ∧ j10 ≤ 65535 by omega)) (show 0 ≤ j15 ∧ j15 ≤ 1 by omega)) (show 0 ≤ r25 ∧ r25 ≤ 30 by omega)) hC (wp_us (by decide) (wp_us (by decide) (wp_us (by decide) (wp_us (by decide) (wp_us (by decide) (wp_us (by decide) hW)))))) t Z M (365 + j5) (by omega) hp1 hp3 hp4 hp5) ?_
            rintro _ _ ⟨r34, rfl, rfl, b35, k36⟩
            show tt Zi d 67 (152, [some (.inr (.inl 21)), some (.inl x)], [.inl r34, .inr (.inl 21)], n, D, (us (us (us (us (us (us s 2109 (nB Y.1 x Y.2.2.2)) 2112 j5) 2111 (365 + j5)) 2114 j10) 2115 j15) 2113 r25), p, c) _
            replace k36 : r34 = 1 ↔ 2 * M 37 (365 + j5).toNat < M 39 (365 + j5).toNat := k36
            refine tz_eq (x := r34) rfl rfl (by omega) (fun h37 => ?_) (fun h37 => ?_)
            · show tt Zi d 67 (159, [some (.inr (.inl 21)), some (.inl x)], [.inr (.inl 21)], n, D, (us (us (us (us (us (us s 2109 (nB Y.1 x Y.2.2.2)) 2112 j5) 2111 (365 + j5)) 2114 j10) 2115 j15) 2113 r25), p, c) _
              refine tt_k 1 (S' := (160, [some (.inr (.inl 21)), some (.inl x)], [.inl 0, .inr (.inl 21)], n, D, (us (us (us (us (us (us s 2109 (nB Y.1 x Y.2.2.2)) 2112 j5) 2111 (365 + j5)) 2114 j10) 2115 j15) 2113 r25), p, c)) rfl ?_
              exact K29 0  (by omega) (by unfold oS; rw [← hkk, ← b9]; first | rw [if_pos (by omega)] | rw [if_neg (by omega)]) (trivial)
            · show tt Zi d 67 (155, [some (.inr (.inl 21)), some (.inl x)], [.inr (.inl 21)], n, D, (us (us (us (us (us (us s 2109 (nB Y.1 x Y.2.2.2)) 2112 j5) 2111 (365 + j5)) 2114 j10) 2115 j15) 2113 r25), p, c) _
              refine tt_k 2 (S' := (160, [some (.inr (.inl 21)), some (.inl x)], [.inl 1, .inr (.inl 21)], n, D, (us (us (us (us (us (us s 2109 (nB Y.1 x Y.2.2.2)) 2112 j5) 2111 (365 + j5)) 2114 j10) 2115 j15) 2113 r25), p, c)) rfl ?_
              exact K29 1  (by omega) (by unfold oS; rw [← hkk, ← b9]; first | rw [if_pos (by omega)] | rw [if_neg (by omega)]) (trivial)
        refine tb_ne (x := j5) (y := 1) rfl rfl (by omega) (fun h38 => ?_) (fun h38 => ?_)
        · show tt Zi d 67 (126, [some (.inr (.inl 21)), some (.inl x)], [.inl (365 + j5), .inr (.inl 9), .inr (.inl 21)], n, D, (us (us (us (us (us s 2109 (nB Y.1 x Y.2.2.2)) 2112 j5) 2111 (365 + j5)) 2114 j10) 2115 j15), p, c) _
          refine tt_k 1 (S' := (127, [some (.inr (.inl 21)), some (.inl x)], [.inl 0, .inl (365 + j5), .inr (.inl 9), .inr (.inl 21)], n, D, (us (us (us (us (us s 2109 (nB Y.1 x Y.2.2.2)) 2112 j5) 2111 (365 + j5)) 2114 j10) 2115 j15), p, c)) rfl ?_
          exact K21 0  (by omega) (by omega) (trivial)
        · show tt Zi d 67 (122, [some (.inr (.inl 21)), some (.inl x)], [.inl (365 + j5), .inr (.inl 9), .inr (.inl 21)], n, D, (us (us (us (us (us s 2109 (nB Y.1 x Y.2.2.2)) 2112 j5) 2111 (365 + j5)) 2114 j10) 2115 j15), p, c) _
          refine tt_k 2 (S' := (127, [some (.inr (.inl 21)), some (.inl x)], [.inl 1, .inl (365 + j5), .inr (.inl 9), .inr (.inl 21)], n, D, (us (us (us (us (us s 2109 (nB Y.1 x Y.2.2.2)) 2112 j5) 2111 (365 + j5)) 2114 j10) 2115 j15), p, c)) rfl ?_
          exact K21 1  (by omega) (by omega) (trivial)
      refine tz_ne (x := j5) rfl rfl (by omega) (fun h39 => ?_) (fun h39 => ?_)
      · show tt Zi d 67 (101, [some (.inr (.inl 21)), some (.inl x)], [.inr (.inl 21)], n, D, (us (us (us (us s 2109 (nB Y.1 x Y.2.2.2)) 2112 j5) 2111 (365 + j5)) 2114 j10), p, c) _
        refine tt_k 1 (S' := (102, [some (.inr (.inl 21)), some (.inl x)], [.inl 0, .inr (.inl 21)], n, D, (us (us (us (us s 2109 (nB Y.1 x Y.2.2.2)) 2112 j5) 2111 (365 + j5)) 2114 j10), p, c)) rfl ?_
        exact K16 0  (by omega) (by unfold tS; rw [← b9]; first | rw [if_pos (by omega)] | rw [if_neg (by omega)]) (trivial)
      · show tt Zi d 67 (86, [some (.inr (.inl 21)), some (.inl x)], [.inr (.inl 21)], n, D, (us (us (us (us s 2109 (nB Y.1 x Y.2.2.2)) 2112 j5) 2111 (365 + j5)) 2114 j10), p, c) _
        refine tt_k 4 (S' := (94, [some (.inr (.inl 21)), some (.inl x)], [.inl (nB Y.1 x Y.2.2.2), .inl (s 2108), .inr (.inl 21)], n, D, (us (us (us (us s 2109 (nB Y.1 x Y.2.2.2)) 2112 j5) 2111 (365 + j5)) 2114 j10), p, c)) rfl ?_
        refine tb_le (x := (s 2108)) (y := (nB Y.1 x Y.2.2.2)) rfl rfl (by omega) (fun h40 => ?_) (fun h40 => ?_)
        · show tt Zi d 67 (101, [some (.inr (.inl 21)), some (.inl x)], [.inr (.inl 21)], n, D, (us (us (us (us s 2109 (nB Y.1 x Y.2.2.2)) 2112 j5) 2111 (365 + j5)) 2114 j10), p, c) _
          refine tt_k 1 (S' := (102, [some (.inr (.inl 21)), some (.inl x)], [.inl 0, .inr (.inl 21)], n, D, (us (us (us (us s 2109 (nB Y.1 x Y.2.2.2)) 2112 j5) 2111 (365 + j5)) 2114 j10), p, c)) rfl ?_
          exact K16 0  (by omega) (by unfold tS; rw [← b9]; first | rw [if_pos (by omega)] | rw [if_neg (by omega)]) (trivial)
        · show tt Zi d 67 (97, [some (.inr (.inl 21)), some (.inl x)], [.inr (.inl 21)], n, D, (us (us (us (us s 2109 (nB Y.1 x Y.2.2.2)) 2112 j5) 2111 (365 + j5)) 2114 j10), p, c) _
          refine tt_k 2 (S' := (102, [some (.inr (.inl 21)), some (.inl x)], [.inl 1, .inr (.inl 21)], n, D, (us (us (us (us s 2109 (nB Y.1 x Y.2.2.2)) 2112 j5) 2111 (365 + j5)) 2114 j10), p, c)) rfl ?_
          exact K16 1  (by omega) (by unfold tS; rw [← b9]; first | rw [if_pos (by omega)] | rw [if_neg (by omega)]) (trivial)
    refine tb_ne (x := j5) (y := 1) rfl rfl (by omega) (fun h41 => ?_) (fun h41 => ?_)
    · show tt Zi d 67 (71, [some (.inr (.inl 21)), some (.inl x)], [.inr (.inl 21)], n, D, (us (us (us s 2109 (nB Y.1 x Y.2.2.2)) 2112 j5) 2111 (365 + j5)), p, c) _
      refine tt_k 2 (S' := (75, [some (.inr (.inl 21)), some (.inl x)], [.inl (nB Y.1 x Y.2.2.2), .inr (.inl 21)], n, D, (us (us (us s 2109 (nB Y.1 x Y.2.2.2)) 2112 j5) 2111 (365 + j5)), p, c)) rfl ?_
      exact K11 (nB Y.1 x Y.2.2.2)  (by omega) (by unfold gS; rw [← b9]; first | rw [if_pos (by omega)] | rw [if_neg (by omega)]) (trivial)
    · show tt Zi d 67 (64, [some (.inr (.inl 21)), some (.inl x)], [.inr (.inl 21)], n, D, (us (us (us s 2109 (nB Y.1 x Y.2.2.2)) 2112 j5) 2111 (365 + j5)), p, c) _
      refine tt_k 3 (S' := (75, [some (.inr (.inl 21)), some (.inl x)], [.inl (s 2108), .inr (.inl 21)], n, D, (us (us (us s 2109 (nB Y.1 x Y.2.2.2)) 2112 j5) 2111 (365 + j5)), p, c)) rfl ?_
      exact K11 (s 2108)  (by omega) (by unfold gS; rw [← b9]; first | rw [if_pos (by omega)] | rw [if_neg (by omega)]) (trivial)
  refine tb_gt (x := (if 0 ≤ ((s 2108) - (nB Y.1 x Y.2.2.2)) then ((s 2108) - (nB Y.1 x Y.2.2.2)) else -((s 2108) - (nB Y.1 x Y.2.2.2)))) (y := (s 801)) rfl rfl (by omega) (fun h42 => ?_) (fun h42 => ?_)
  · show tt Zi d 67 (39, [some (.inr (.inl 21)), some (.inl x)], [.inr (.inl 21)], n, D, (us s 2109 (nB Y.1 x Y.2.2.2)), p, c) _
    refine tt_k 1 (S' := (40, [some (.inr (.inl 21)), some (.inl x)], [.inl 0, .inr (.inl 21)], n, D, (us s 2109 (nB Y.1 x Y.2.2.2)), p, c)) rfl ?_
    exact K6 0  (by omega) (by unfold sS fA; rw [← z1]; first | rw [if_pos (by omega)] | rw [if_neg (by omega)]) (trivial)
  · show tt Zi d 67 (35, [some (.inr (.inl 21)), some (.inl x)], [.inr (.inl 21)], n, D, (us s 2109 (nB Y.1 x Y.2.2.2)), p, c) _
    refine tt_k 2 (S' := (40, [some (.inr (.inl 21)), some (.inl x)], [.inl 1, .inr (.inl 21)], n, D, (us s 2109 (nB Y.1 x Y.2.2.2)), p, c)) rfl ?_
    exact K6 1  (by omega) (by unfold sS fA; rw [← z1]; first | rw [if_pos (by omega)] | rw [if_neg (by omega)]) (trivial)
set_option maxRecDepth 100000 in
set_option maxHeartbeats 4000000 in
theorem u_stopLimit {g : Nat → Int} {Zi : Nat → Option (Nat × (Nat → Int))} {d n q : Nat} {D : Nat → Nat × Nat} {s : Nat → Int} {p : Nat → Nat} {c : Nat → Nat → Int} (hd : 1 ≤ d) (hz : zk Zi) (hq : q + 2 ≤ 400000) (hD : wd n p) (hS : bS s) (hC : bC D c) (hW : wp q g n D p s) (Z : Nat → Int) (hp0 : zq Z (s 800) (s 801) (s 802) (s 803) (s 804) (s 805) (s 806) (s 807) (s 808) (s 809)) (hp1 : mv Z) : tt Zi d 70 (0, [some (.inr (.inl 21))], [], n, D, s, p, c) (fun R H => ∃ (r : Int), R = .inl (some (.inl r)) ∧ H = (n, D, s, p, c) ∧ (-16 ≤ r ∧ r ≤ 63) ∧ (r = Z 3026 - 1 - jj (s 902))) := by
  have hzq := hp0
  obtain ⟨z0, z1, z2, z3, z4, z5, z6, z7, z8, z9⟩ := hzq
  have mvx := mv_fx (s := Z) hp1
  refine tt_k 7 (S' := (13, [some (.inr (.inl 21))], [.inr (.inl 9), .inl ((s 809) - 1)], n, D, s, p, c)) rfl ?_
  refine tt_cl (by omega) rfl (e_runBits (Zi := Zi) (q := q) (n := n) (D := D) (s := s) (p := p) (c := c) (by omega) hz (by omega) hD hS hC hW ) ?_
  rintro _ _ ⟨r1, rfl, rfl, b2, k3⟩
  show tt Zi d 70 (16, [some (.inr (.inl 21))], [.inl r1, .inl ((s 809) - 1)], n, D, s, p, c) _
  replace k3 : r1 = jj ((s 902)) := k3
  have b4 : 0 ≤ (s 902) ∧ (s 902) ≤ 31 := hS 902
  refine tt_k 1 (S' := (17, [some (.inr (.inl 21))], [.inl ((((s 809) - 1) - r1))], n, D, s, p, c)) rfl ?_
  have b5 : 0 ≤ (s 809) ∧ (s 809) ≤ 64 := hS 809
  exact tt_rti rfl rfl ⟨(((s 809) - 1) - r1), rfl, rfl, by omega, by show ((((s 809) - 1) - r1)) = Z 3026 - 1 - jj (s 902); omega⟩
set_option maxRecDepth 100000 in
set_option maxHeartbeats 4000000 in
theorem u_takeSample {g : Nat → Int} {Zi : Nat → Option (Nat × (Nat → Int))} {d n q : Nat} {D : Nat → Nat × Nat} {s : Nat → Int} {p : Nat → Nat} {c : Nat → Nat → Int} (hd : 2 ≤ d) (hz : zk Zi) (hq : q + 4 ≤ 400000) (hD : wd n p) (hS : bS s) (hC : bC D c) (hW : wp q g n D p s) (t : Int) (Z : Nat → Int) (M : MT) (x : Int) (e : Int) (b_x : 0 ≤ x ∧ x ≤ 63) (b_e : -65536 ≤ e ∧ e ≤ 65536) (hp0 : mrc M (c (p 901))) (hp1 : zq Z (s 800) (s 801) (s 802) (s 803) (s 804) (s 805) (s 806) (s 807) (s 808) (s 809)) (hp2 : mv Z) (hp3 : pl Z t M) (hp4 : 0 ≤ t ∧ t ≤ 4095) (hp5 : 0 ≤ s 2114 ∧ s 2114 ≤ Z 3017) : tt Zi d 50 (0, [some (.inr (.inl 21)), some (.inl x), some (.inl e)], [], n, D, s, p, c) (fun R H => ∃ (c' : Nat → Nat → Int), R = .inl none ∧ H = (n, D, s, p, c') ∧ bC D c' ∧ fk p c n p c' [901, 2104] ∧ (c' (p 2104) = ua (c (p 2104)) (x + 1).toNat (rR Z (s 2114) (s 2115) e)) ∧ (mrc (mLrn Z M (s 2111).toNat e) (c' (p 901)))) := by
  have hzq := hp1
  obtain ⟨z0, z1, z2, z3, z4, z5, z6, z7, z8, z9⟩ := hzq
  have mvx := mv_fx (s := Z) hp2
  have b1 : 0 ≤ (s 2111) ∧ (s 2111) ≤ 366 := hS 2111
  refine tt_k 11 (S' := (19, [some (.inr (.inl 21)), some (.inl x), some (.inl e)], [.inl (s 2115), .inl (s 2114), .inr (.inl 8), .inl (x + 1), .inr (.inl (p 2104))], n, D, s, p, c)) rfl ?_
  have b2 : 0 ≤ (s 2115) ∧ (s 2115) ≤ 1 := hS 2115
  have K4 : ∀ (j3 : Int) , (-65536 ≤ j3 ∧ j3 ≤ 65536) → (j3 = (if s 2115 = 1 then -e else e)) → (True) → tt Zi d 50 (28, [some (.inr (.inl 21)), some (.inl x), some (.inl e)], [.inl j3, .inl (s 2114), .inr (.inl 8), .inl (x + 1), .inr (.inl (p 2104))], n, D, s, p, c) (fun R H => ∃ (c' : Nat → Nat → Int), R = .inl none ∧ H = (n, D, s, p, c') ∧ bC D c' ∧ fk p c n p c' [901, 2104] ∧ (c' (p 2104) = ua (c (p 2104)) (x + 1).toNat (rR Z (s 2114) (s 2115) e)) ∧ (mrc (mLrn Z M (s 2111).toNat e) (c' (p 901)))) := by
    intro j3 b6 b7 hj5
    have b8 : 0 ≤ (s 2114) ∧ (s 2114) ≤ 65535 := hS 2114
    have b9 : 0 ≤ (s 800) ∧ (s 800) ≤ 65535 := hS 800
    have b10 : -2147483648 ≤ (s 801) ∧ (s 801) ≤ 2147483647 := hS 801
    have b11 : -2147483648 ≤ (s 802) ∧ (s 802) ≤ 2147483647 := hS 802
    have b12 : -2147483648 ≤ (s 803) ∧ (s 803) ≤ 2147483647 := hS 803
    have b13 : -2147483648 ≤ (s 804) ∧ (s 804) ≤ 2147483647 := hS 804
    have b14 : 0 ≤ (s 805) ∧ (s 805) ≤ 65535 := hS 805
    have b15 : 1 ≤ (s 806) ∧ (s 806) ≤ 511 := hS 806
    have b16 : 0 ≤ (s 807) ∧ (s 807) ≤ 65536 := hS 807
    have b17 : 0 ≤ (s 808) ∧ (s 808) ≤ 30 := hS 808
    have b18 : 0 ≤ (s 809) ∧ (s 809) ≤ 64 := hS 809
    refine tt_cl (by omega) rfl (e_rebuilt (Zi := Zi) (q := q) (n := n) (D := D) (s := s) (p := p) (c := c) (by omega) hz (by omega) hD hS hC hW Z (s 2114) j3 (by omega) (by omega) hp1 hp2) ?_
    rintro _ _ ⟨r19, rfl, rfl, b20, k21⟩
    show tt Zi d 50 (31, [some (.inr (.inl 21)), some (.inl x), some (.inl e)], [.inl r19, .inl (x + 1), .inr (.inl (p 2104))], n, D, s, p, c) _
    replace k21 : r19 = fR Z (s 2114) j3 := k21
    have hrb : r19 = rR Z (s 2114) (s 2115) e := by rw [k21]; unfold rR; rw [b7]
    refine tt_isb (i := (x + 1)) (m := 66) (lo := 0) (hi := 65535) (x := r19) rfl ((sw_arr (hW).a21 rfl rfl).2) (by omega) hC ((sw_21 (hW).a21).2) (by omega) ?_
    intro c22 hC22 ec22
    show tt Zi d 50 (32, [some (.inr (.inl 21)), some (.inl x), some (.inl e)], [], n, D, s, p, c22) _
    have FK23 : fk p c n p c22 [901, 2104] := fk_st (k := 2104) (fk_rf hD) ec22 (by decide) rfl
    have hx24 : mrc M (c22 (p 901)) := by rw [ec22, uc_ne (show (p 901) ≠ (p 2104) from FK23.1.2 901 (by decide) 2104 (by decide) (by decide))]; exact hp0
    refine tt_k 7 (S' := (45, [some (.inr (.inl 21)), some (.inl x), some (.inl e)], [.inr (.inl 8), .inl e, .inl (s 2111), .inr (.inl 9)], n, D, s, p, c22)) rfl ?_
    refine tt_cl (by omega) rfl (e_learnSample (Zi := Zi) (q := q) (n := n) (D := D) (s := s) (p := p) (c := c22) (by omega) hz (by omega) FK23.1 hS hC22 hW t Z M (s 2111) e (by omega) (by omega) hx24 hp1 hp2 hp3 hp4) ?_
    rintro _ _ ⟨c25, rfl, rfl, hC25, kf26, k27⟩
    have FK28 : fk p c n p c25 [901, 2104] := fk_tr FK23 kf26 (by decide)
    show tt Zi d 50 (48, [some (.inr (.inl 21)), some (.inl x), some (.inl e)], [], n, D, s, p, c25) _
    exact tt_rtv rfl rfl ⟨c25, rfl, rfl, hC25, FK28, by show c25 (p 2104) = ua (c (p 2104)) (x + 1).toNat (rR Z (s 2114) (s 2115) e); rw [fk_k (k := 2104) kf26 (by decide), ec22, uc_eq, hrb], k27⟩
  refine tz_eq (x := (s 2115)) rfl rfl (by omega) (fun h29 => ?_) (fun h29 => ?_)
  · show tt Zi d 50 (27, [some (.inr (.inl 21)), some (.inl x), some (.inl e)], [.inl (s 2114), .inr (.inl 8), .inl (x + 1), .inr (.inl (p 2104))], n, D, s, p, c) _
    refine tt_k 1 (S' := (28, [some (.inr (.inl 21)), some (.inl x), some (.inl e)], [.inl e, .inl (s 2114), .inr (.inl 8), .inl (x + 1), .inr (.inl (p 2104))], n, D, s, p, c)) rfl ?_
    exact K4 e  (by omega) (by first | rw [if_pos (by omega)] | rw [if_neg (by omega)]) (trivial)
  · show tt Zi d 50 (22, [some (.inr (.inl 21)), some (.inl x), some (.inl e)], [.inl (s 2114), .inr (.inl 8), .inl (x + 1), .inr (.inl (p 2104))], n, D, s, p, c) _
    refine tt_k 3 (S' := (28, [some (.inr (.inl 21)), some (.inl x), some (.inl e)], [.inl (-e), .inl (s 2114), .inr (.inl 8), .inl (x + 1), .inr (.inl (p 2104))], n, D, s, p, c)) rfl ?_
    exact K4 (-e)  (by omega) (by first | rw [if_pos (by omega)] | rw [if_neg (by omega)]) (trivial)
set_option maxRecDepth 100000 in
set_option maxHeartbeats 4000000 in
theorem u_takeStop {g : Nat → Int} {Zi : Nat → Option (Nat × (Nat → Int))} {d n q : Nat} {D : Nat → Nat × Nat} {s : Nat → Int} {p : Nat → Nat} {c : Nat → Nat → Int} (hd : 2 ≤ d) (hz : zk Zi) (hq : q + 4 ≤ 400000) (hD : wd n p) (hS : bS s) (hC : bC D c) (hW : wp q g n D p s) (t : Int) (Z : Nat → Int) (M : MT) (x : Int) (e : Int) (nu : Int) (b_x : 0 ≤ x ∧ x ≤ 63) (b_e : -65536 ≤ e ∧ e ≤ 65536) (b_nu : 0 ≤ nu ∧ nu ≤ 65536) (hp0 : mrc M (c (p 901))) (hp1 : zq Z (s 800) (s 801) (s 802) (s 803) (s 804) (s 805) (s 806) (s 807) (s 808) (s 809)) (hp2 : mv Z) (hp3 : pl Z t M) (hp4 : 0 ≤ t ∧ t ≤ 4095) (hp5 : 0 ≤ s 2114 ∧ s 2114 ≤ Z 3017) (hp6 : 0 ≤ s 2112 ∧ s 2112 ≤ 1) : tt Zi d 71 (0, [some (.inr (.inl 21)), some (.inl x), some (.inl e), some (.inl nu)], [], n, D, s, p, c) (fun R H => ∃ (s' : Nat → Int) (c' : Nat → Nat → Int), R = .inl none ∧ H = (n, D, s', p, c') ∧ bS s' ∧ bC D c' ∧ wp q g n D p s' ∧ fr s s' [902] ∧ fk p c n p c' [901, 2104] ∧ (c' (p 2104) = ua (c (p 2104)) (x + 1).toNat (rR Z (s 2114) (s 2115) e)) ∧ (mrc (mStp Z M (s 2111).toNat e ((nu + 1 - s 2112) / 2)) (c' (p 901))) ∧ (s' 902 = (if 0 < s 902 then s 902 - 1 else 0))) := by
  have hzq := hp1
  obtain ⟨z0, z1, z2, z3, z4, z5, z6, z7, z8, z9⟩ := hzq
  have mvx := mv_fx (s := Z) hp2
  have b1 : 0 ≤ (s 2111) ∧ (s 2111) ≤ 366 := hS 2111
  refine tt_k 11 (S' := (19, [some (.inr (.inl 21)), some (.inl x), some (.inl e), some (.inl nu)], [.inl (s 2115), .inl (s 2114), .inr (.inl 8), .inl (x + 1), .inr (.inl (p 2104))], n, D, s, p, c)) rfl ?_
  have b2 : 0 ≤ (s 2115) ∧ (s 2115) ≤ 1 := hS 2115
  have K4 : ∀ (j3 : Int) , (-65536 ≤ j3 ∧ j3 ≤ 65536) → (j3 = (if s 2115 = 1 then -e else e)) → (True) → tt Zi d 71 (28, [some (.inr (.inl 21)), some (.inl x), some (.inl e), some (.inl nu)], [.inl j3, .inl (s 2114), .inr (.inl 8), .inl (x + 1), .inr (.inl (p 2104))], n, D, s, p, c) (fun R H => ∃ (s' : Nat → Int) (c' : Nat → Nat → Int), R = .inl none ∧ H = (n, D, s', p, c') ∧ bS s' ∧ bC D c' ∧ wp q g n D p s' ∧ fr s s' [902] ∧ fk p c n p c' [901, 2104] ∧ (c' (p 2104) = ua (c (p 2104)) (x + 1).toNat (rR Z (s 2114) (s 2115) e)) ∧ (mrc (mStp Z M (s 2111).toNat e ((nu + 1 - s 2112) / 2)) (c' (p 901))) ∧ (s' 902 = (if 0 < s 902 then s 902 - 1 else 0))) := by
    intro j3 b6 b7 hj5
    have b8 : 0 ≤ (s 2114) ∧ (s 2114) ≤ 65535 := hS 2114
    have b9 : 0 ≤ (s 800) ∧ (s 800) ≤ 65535 := hS 800
    have b10 : -2147483648 ≤ (s 801) ∧ (s 801) ≤ 2147483647 := hS 801
    have b11 : -2147483648 ≤ (s 802) ∧ (s 802) ≤ 2147483647 := hS 802
    have b12 : -2147483648 ≤ (s 803) ∧ (s 803) ≤ 2147483647 := hS 803
    have b13 : -2147483648 ≤ (s 804) ∧ (s 804) ≤ 2147483647 := hS 804
    have b14 : 0 ≤ (s 805) ∧ (s 805) ≤ 65535 := hS 805
    have b15 : 1 ≤ (s 806) ∧ (s 806) ≤ 511 := hS 806
    have b16 : 0 ≤ (s 807) ∧ (s 807) ≤ 65536 := hS 807
    have b17 : 0 ≤ (s 808) ∧ (s 808) ≤ 30 := hS 808
    have b18 : 0 ≤ (s 809) ∧ (s 809) ≤ 64 := hS 809
    refine tt_cl (by omega) rfl (e_rebuilt (Zi := Zi) (q := q) (n := n) (D := D) (s := s) (p := p) (c := c) (by omega) hz (by omega) hD hS hC hW Z (s 2114) j3 (by omega) (by omega) hp1 hp2) ?_
    rintro _ _ ⟨r19, rfl, rfl, b20, k21⟩
    show tt Zi d 71 (31, [some (.inr (.inl 21)), some (.inl x), some (.inl e), some (.inl nu)], [.inl r19, .inl (x + 1), .inr (.inl (p 2104))], n, D, s, p, c) _
    replace k21 : r19 = fR Z (s 2114) j3 := k21
    have hrb : r19 = rR Z (s 2114) (s 2115) e := by rw [k21]; unfold rR; rw [b7]
    refine tt_isb (i := (x + 1)) (m := 66) (lo := 0) (hi := 65535) (x := r19) rfl ((sw_arr (hW).a21 rfl rfl).2) (by omega) hC ((sw_21 (hW).a21).2) (by omega) ?_
    intro c22 hC22 ec22
    show tt Zi d 71 (32, [some (.inr (.inl 21)), some (.inl x), some (.inl e), some (.inl nu)], [], n, D, s, p, c22) _
    have FK23 : fk p c n p c22 [901, 2104] := fk_st (k := 2104) (fk_rf hD) ec22 (by decide) rfl
    have hx24 : mrc M (c22 (p 901)) := by rw [ec22, uc_ne (show (p 901) ≠ (p 2104) from FK23.1.2 901 (by decide) 2104 (by decide) (by decide))]; exact hp0
    refine tt_k 12 (S' := (50, [some (.inr (.inl 21)), some (.inl x), some (.inl e), some (.inl nu)], [.inl 2, .inl ((nu + 1) - (s 2112)), .inl e, .inl (s 2111), .inr (.inl 9)], n, D, s, p, c22)) rfl ?_
    have b25 : 0 ≤ (s 2112) ∧ (s 2112) ≤ 1 := hS 2112
    refine tt_dvp (x := ((nu + 1) - (s 2112))) (y := 2) rfl (by omega) ?_
    show tt Zi d 71 (51, [some (.inr (.inl 21)), some (.inl x), some (.inl e), some (.inl nu)], [.inl ((((nu + 1) - (s 2112)) / 2)), .inl e, .inl (s 2111), .inr (.inl 9)], n, D, s, p, c22) _
    refine tt_k 3 (S' := (58, [some (.inr (.inl 21)), some (.inl x), some (.inl e), some (.inl nu)], [.inl (s 805), .inl ((((nu + 1) - (s 2112)) / 2)), .inl e, .inl (s 2111), .inr (.inl 9)], n, D, s, p, c22)) rfl ?_
    refine tt_cl (by omega) rfl (e_learnStop (Zi := Zi) (q := q) (n := n) (D := D) (s := s) (p := p) (c := c22) (by omega) hz (by omega) FK23.1 hS hC22 hW t Z M (s 2111) e ((((nu + 1) - (s 2112)) / 2)) (s 805) (by omega) (by omega) (by omega) (by omega) hx24 hp2 hp3 hp4 (show (s 805) = Z 3022 by omega)) ?_
    rintro _ _ ⟨c26, rfl, rfl, hC26, kf27, k28⟩
    have FK29 : fk p c n p c26 [901, 2104] := fk_tr FK23 kf27 (by decide)
    show tt Zi d 71 (61, [some (.inr (.inl 21)), some (.inl x), some (.inl e), some (.inl nu)], [], n, D, s, p, c26) _
    refine tt_k 2 (S' := (65, [some (.inr (.inl 21)), some (.inl x), some (.inl e), some (.inl nu)], [.inr (.inl 9)], n, D, s, p, c26)) rfl ?_
    refine tt_cl (by omega) rfl (e_slacken (Zi := Zi) (q := q) (n := n) (D := D) (s := s) (p := p) (c := c26) (by omega) hz (by omega) FK29.1 hS hC26 hW ) ?_
    rintro _ _ ⟨s30, rfl, rfl, hS30, hW31, f32, k33⟩
    show tt Zi d 71 (68, [some (.inr (.inl 21)), some (.inl x), some (.inl e), some (.inl nu)], [], n, D, s30, p, c26) _
    replace k33 : (s30 902) = (if 0 < (s 902) then (s 902) - 1 else 0) := k33
    have b34 : 0 ≤ (s 902) ∧ (s 902) ≤ 31 := hS 902
    have b35 : 0 ≤ (s30 902) ∧ (s30 902) ≤ 31 := hS30 902
    have hx36 : zq Z (s30 800) (s30 801) (s30 802) (s30 803) (s30 804) (s30 805) (s30 806) (s30 807) (s30 808) (s30 809) := by rw [f32 800 (by decide), f32 801 (by decide), f32 802 (by decide), f32 803 (by decide), f32 804 (by decide), f32 805 (by decide), f32 806 (by decide), f32 807 (by decide), f32 808 (by decide), f32 809 (by decide)]; exact hp1
    exact tt_rtv rfl rfl ⟨s30, c26, rfl, rfl, hS30, hC26, hW31, (fr_tr fr_rf f32 (by decide)), FK29, by show c26 (p 2104) = ua (c (p 2104)) (x + 1).toNat (rR Z (s 2114) (s 2115) e); rw [fk_k (k := 2104) kf27 (by decide), ec22, uc_eq, hrb], k28, by show (s30 902) = (if 0 < s 902 then s 902 - 1 else 0); exact k33⟩
  refine tz_eq (x := (s 2115)) rfl rfl (by omega) (fun h37 => ?_) (fun h37 => ?_)
  · show tt Zi d 71 (27, [some (.inr (.inl 21)), some (.inl x), some (.inl e), some (.inl nu)], [.inl (s 2114), .inr (.inl 8), .inl (x + 1), .inr (.inl (p 2104))], n, D, s, p, c) _
    refine tt_k 1 (S' := (28, [some (.inr (.inl 21)), some (.inl x), some (.inl e), some (.inl nu)], [.inl e, .inl (s 2114), .inr (.inl 8), .inl (x + 1), .inr (.inl (p 2104))], n, D, s, p, c)) rfl ?_
    exact K4 e  (by omega) (by first | rw [if_pos (by omega)] | rw [if_neg (by omega)]) (trivial)
  · show tt Zi d 71 (22, [some (.inr (.inl 21)), some (.inl x), some (.inl e), some (.inl nu)], [.inl (s 2114), .inr (.inl 8), .inl (x + 1), .inr (.inl (p 2104))], n, D, s, p, c) _
    refine tt_k 3 (S' := (28, [some (.inr (.inl 21)), some (.inl x), some (.inl e), some (.inl nu)], [.inl (-e), .inl (s 2114), .inr (.inl 8), .inl (x + 1), .inr (.inl (p 2104))], n, D, s, p, c)) rfl ?_
    exact K4 (-e)  (by omega) (by first | rw [if_pos (by omega)] | rw [if_neg (by omega)]) (trivial)
set_option maxRecDepth 100000 in
set_option maxHeartbeats 4000000 in
theorem u_setRun_L2 {g : Nat → Int} {Zi : Nat → Option (Nat × (Nat → Int))} {d n q : Nat} {D : Nat → Nat × Nat} {s : Nat → Int} {p : Nat → Nat} {c : Nat → Nat → Int}  {Q : mi_Rs → mi_H → Prop} (hd : 0 ≤ d) (hz : zk Zi) (hq : q + 0 ≤ 400001) (hD : wd n p) (hS : bS s) (hC : bC D c) (hW : wp q g n D p s) (x : Int) (n_ : Int) (b_x : 0 ≤ x ∧ x ≤ 64) (b_n_ : 0 ≤ n_ ∧ n_ ≤ 64) (hq0 : x + n_ ≤ 65)
  (hK : ∀ (i : Int) (c0 : Nat → Nat → Int) (b_i : 1 ≤ i ∧ i ≤ 65) (hC0 : bC D c0) (hK0 : fk p c n p c0 [2104]) (i0 : i ≤ n_ + 1) (i1 : c0 (p 2104) = fil (c (p 2104)) (x + 1).toNat (i - 1) (s 2108)), (n_ < i) → tt Zi d 63 (25, [some (.inr (.inl 21)), some (.inl x), some (.inl n_), some (.inl i)], [], n, D, s, p, c0) Q) :
  ∀ (m : Nat) (i : Int) (c0 : Nat → Nat → Int) (b_i : 1 ≤ i ∧ i ≤ 65) (hC0 : bC D c0) (hK0 : fk p c n p c0 [2104]) (i0 : i ≤ n_ + 1) (i1 : c0 (p 2104) = fil (c (p 2104)) (x + 1).toNat (i - 1) (s 2108)), (n_ + 1 - i).toNat < m → tt Zi d 63 (2, [some (.inr (.inl 21)), some (.inl x), some (.inl n_), some (.inl i)], [], n, D, s, p, c0) Q := by
  intro m
  induction m with
  | zero => intro i c0 b_i hC0 hK0 i0 i1 hm; exact absurd hm (by omega)
  | succ m ih =>
    intro i c0 b_i hC0 hK0 i0 i1 hm
    refine tt_k 2 (S' := (4, [some (.inr (.inl 21)), some (.inl x), some (.inl n_), some (.inl i)], [.inl n_, .inl i], n, D, s, p, c0)) rfl ?_
    refine tb_gt (x := i) (y := n_) rfl rfl (by omega) (fun h1 => ?_) (fun h1 => ?_)
    · show tt Zi d 63 (25, [some (.inr (.inl 21)), some (.inl x), some (.inl n_), some (.inl i)], [], n, D, s, p, c0) _
      exact hK i c0 (by omega) hC0 hK0 i0 i1 (by omega)
    · show tt Zi d 63 (7, [some (.inr (.inl 21)), some (.inl x), some (.inl n_), some (.inl i)], [], n, D, s, p, c0) _
      refine tt_k 7 (S' := (18, [some (.inr (.inl 21)), some (.inl x), some (.inl n_), some (.inl i)], [.inl (s 2108), .inl (x + i), .inr (.inl (p 2104))], n, D, s, p, c0)) rfl ?_
      have b2 : 0 ≤ (s 2108) ∧ (s 2108) ≤ 65535 := hS 2108
      refine tt_isb (i := (x + i)) (m := 66) (lo := 0) (hi := 65535) (x := (s 2108)) rfl ((sw_arr (hW).a21 rfl rfl).2) (by omega) hC0 ((sw_21 (hW).a21).2) (by omega) ?_
      intro c3 hC3 ec3
      show tt Zi d 63 (19, [some (.inr (.inl 21)), some (.inl x), some (.inl n_), some (.inl i)], [], n, D, s, p, c3) _
      have FK4 : fk p c n p c3 [2104] := fk_st (k := 2104) hK0 ec3 (by decide) rfl
      refine tt_k 2 (S' := (2, [some (.inr (.inl 21)), some (.inl x), some (.inl n_), some (.inl (i + 1))], [], n, D, s, p, c3)) rfl ?_
      exact ih (i + 1) c3 (by omega) hC3 FK4 (show (i + 1) ≤ n_ + 1 by omega) (by rw [ec3, uc_eq, i1, fil_s (by omega) (by omega)]) (show (n_ + 1 - (i + 1)).toNat < m by omega)
set_option maxRecDepth 100000 in
set_option maxHeartbeats 4000000 in
theorem u_setRun {g : Nat → Int} {Zi : Nat → Option (Nat × (Nat → Int))} {d n q : Nat} {D : Nat → Nat × Nat} {s : Nat → Int} {p : Nat → Nat} {c : Nat → Nat → Int} (hd : 0 ≤ d) (hz : zk Zi) (hq : q + 0 ≤ 400000) (hD : wd n p) (hS : bS s) (hC : bC D c) (hW : wp q g n D p s) (x : Int) (n_ : Int) (b_x : 0 ≤ x ∧ x ≤ 64) (b_n_ : 0 ≤ n_ ∧ n_ ≤ 64) (hp0 : x + n_ ≤ 65) : tt Zi d 63 (0, [some (.inr (.inl 21)), some (.inl x), some (.inl n_), none], [], n, D, s, p, c) (fun R H => ∃ (c' : Nat → Nat → Int), R = .inl none ∧ H = (n, D, s, p, c') ∧ bC D c' ∧ fk p c n p c' [2104] ∧ (rwm (fil (c (p 2104)) (x + 1).toNat n_ (s 2108)) (c' (p 2104)))) := by
  refine tt_k 2 (S' := (2, [some (.inr (.inl 21)), some (.inl x), some (.inl n_), some (.inl 1)], [], n, D, s, p, c)) rfl ?_
  refine u_setRun_L2 (Zi := Zi) (q := q) (n := n) (D := D) (s := s) (p := p) (c := c) hd hz (by omega) hD hS hC hW  x n_ (by omega) (by omega) (show x + n_ ≤ 65 by omega)  ?_ _ 1 c (by omega) hC (fk_rf hD) (show 1 ≤ n_ + 1 by omega) fil_0.symm (Nat.lt_succ_self _)
  intro x1 c2 b3 hC2 kf4 i5 i6 hx7
  show tt Zi d 63 (25, [some (.inr (.inl 21)), some (.inl x), some (.inl n_), some (.inl x1)], [], n, D, s, p, c2) _
  have FK8 : fk p c n p c2 [2104] := fk_tr (fk_rf hD) kf4 (by decide)
  replace i5 : x1 ≤ n_ + 1 := i5
  replace hx7 : n_ < x1 := hx7
  exact tt_rtv rfl rfl ⟨c2, rfl, rfl, hC2, FK8, by show rwm (fil (c (p 2104)) (x + 1).toNat n_ (s 2108)) (c2 (p 2104)); rw [← (show x1 - 1 = n_ by omega)]; exact i6⟩
