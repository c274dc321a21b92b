/-! the class's samples, runs and stops -/
theorem tdh_bd {x : Int} (h : -2147483648 ≤ x ∧ x ≤ 2147483647) : -1073741824 ≤ x.tdiv 2 ∧ x.tdiv 2 ≤ 1073741823 := by
  rcases Int.le_total 0 x with h1 | h1
  · rw [Int.tdiv_eq_ediv_of_nonneg h1]
    omega
  · have e : x.tdiv 2 = -((-x).tdiv 2) := by rw [Int.neg_tdiv, Int.neg_neg]
    have e2 : (-x).tdiv 2 = (-x) / 2 := Int.tdiv_eq_ediv_of_nonneg (by omega)
    rw [e, e2]
    omega
theorem wp_sa12_1 {g : Nat → Int} {q n : Nat} {D : Nat → Nat × Nat} {p : Nat → Nat} {s : Nat → Int} (h : wp q g n D p s) : wp q g n D (up p 1205 (p 104)) s := ⟨h.nb, h.dz, h.r4, h.r6, h.c4, h.c6, h.p1, h.p25, h.p27, h.w1, h.w25, h.w27, h.m9, h.a12, h.a21, h.pp, h.p1, h.s21, h.wo, h.gz⟩
theorem wp_sa21_25 {g : Nat → Int} {q n : Nat} {D : Nat → Nat × Nat} {p : Nat → Nat} {s : Nat → Int} (h : wp q g n D p s) : wp q g n D (up p 2105 (p 2504)) s := ⟨h.nb, h.dz, h.r4, h.r6, h.c4, h.c6, h.p1, h.p25, h.p27, h.w1, h.w25, h.w27, h.m9, h.a12, h.a21, h.pp, h.s12, h.p25, h.wo, h.gz⟩
theorem wp_sa21_27 {g : Nat → Int} {q n : Nat} {D : Nat → Nat × Nat} {p : Nat → Nat} {s : Nat → Int} (h : wp q g n D p s) : wp q g n D (up p 2105 (p 2704)) s := ⟨h.nb, h.dz, h.r4, h.r6, h.c4, h.c6, h.p1, h.p25, h.p27, h.w1, h.w25, h.w27, h.m9, h.a12, h.a21, h.pp, h.s12, h.p27, h.wo, h.gz⟩
set_option maxRecDepth 100000 in
set_option maxHeartbeats 4000000 in
theorem g_openRow21 {g : Nat → Int} {Zi : Nat → Option (Nat × (Nat → Int))} {d n q : Nat} {D : Nat → Nat × Nat} {s : Nat → Int} {p : Nat → Nat} {c : Nat → Nat → Int} (hd : 0 ≤ d) (hz : zk Zi) (hq : q + 0 ≤ 400000) (hD : wd n p) (hS : bS s) (hC : bC D c) (hW : wp q g n D p s)  : tt Zi d 35 (0, [some (.inr (.inl 21)), none], [], n, D, s, p, c) (fun R H => ∃ (p' : Nat → Nat) (c' : Nat → Nat → Int), R = .inl none ∧ H = (n, D, s, p', c') ∧ bC D c' ∧ wp q g n D p' s ∧ frp p p' [2103, 2104] ∧ fk p c n p' c' [2103, 2104]) := by
  refine tt_k 14 (S' := (24, [some (.inr (.inl 21)), some (.inr (.inl (p 2103)))], [.inr (.inl 21), .inl 0, .inr (.inl (p 2103))], n, D, s, (up (up p 2103 (p 2104)) 2104 (p 2103)), c)) rfl ?_
  refine tt_k 2 (S' := (28, [some (.inr (.inl 21)), some (.inr (.inl (p 2103)))], [.inl 1, .inr (.inl (p 2104)), .inl 0, .inr (.inl (p 2103))], n, D, s, (up (up p 2103 (p 2104)) 2104 (p 2103)), c)) rfl ?_
  refine tt_ilb (i := 1) (m := 66) (lo := 0) (hi := 65535) rfl ((sw_arr (hW).a21 rfl rfl).2) (by omega) hC ((sw_21 (hW).a21).2) ?_
  intro v1 b2 hvv1
  show tt Zi d 35 (29, [some (.inr (.inl 21)), some (.inr (.inl (p 2103)))], [.inl v1, .inl 0, .inr (.inl (p 2103))], n, D, s, (up (up p 2103 (p 2104)) 2104 (p 2103)), c) _
  refine tt_isb (i := 0) (m := 66) (lo := 0) (hi := 65535) (x := v1) rfl ((sw_arr (hW).a21 rfl rfl).1) (by omega) hC ((sw_21 (hW).a21).1) (by omega) ?_
  intro c3 hC3 ec3
  show tt Zi d 35 (30, [some (.inr (.inl 21)), some (.inr (.inl (p 2103)))], [], n, D, s, (up (up p 2103 (p 2104)) 2104 (p 2103)), c3) _
  have FK4 : fk p c n (up (up p 2103 (p 2104)) 2104 (p 2103)) c3 [2103, 2104] := fk_st (k := 2104) (fk_sw (k := 2103) (j := 2104) (fk_rf hD) (by decide)) ec3 (by decide) rfl
  refine tt_k 10 (S' := (48, [some (.inr (.inl 21)), some (.inr (.inl (p 2103)))], [.inl (s 2106), .inr (.inl (p 2104)), .inl ((s 2106) + 1), .inr (.inl (p 2104))], n, D, s, (up (up p 2103 (p 2104)) 2104 (p 2103)), c3)) rfl ?_
  have b5 : 0 ≤ (s 2106) ∧ (s 2106) ≤ 64 := hS 2106
  refine tt_ilb (i := (s 2106)) (m := 66) (lo := 0) (hi := 65535) rfl ((sw_arr (hW).a21 rfl rfl).2) (by omega) hC3 ((sw_21 (hW).a21).2) ?_
  intro v6 b7 hvv6
  show tt Zi d 35 (49, [some (.inr (.inl 21)), some (.inr (.inl (p 2103)))], [.inl v6, .inl ((s 2106) + 1), .inr (.inl (p 2104))], n, D, s, (up (up p 2103 (p 2104)) 2104 (p 2103)), c3) _
  refine tt_isb (i := ((s 2106) + 1)) (m := 66) (lo := 0) (hi := 65535) (x := v6) rfl ((sw_arr (hW).a21 rfl rfl).2) (by omega) hC3 ((sw_21 (hW).a21).2) (by omega) ?_
  intro c8 hC8 ec8
  show tt Zi d 35 (50, [some (.inr (.inl 21)), some (.inr (.inl (p 2103)))], [], n, D, s, (up (up p 2103 (p 2104)) 2104 (p 2103)), c8) _
  have FK9 : fk p c n (up (up p 2103 (p 2104)) 2104 (p 2103)) c8 [2103, 2104] := fk_st (k := 2103) FK4 ec8 (by decide) rfl
  exact tt_rtv rfl rfl ⟨(up (up p 2103 (p 2104)) 2104 (p 2103)), c8, rfl, rfl, hC8, (wp_sw21 hW), (frp_up (by decide) (frp_up (by decide) frp_rf)), FK9⟩
set_option maxRecDepth 100000 in
set_option maxHeartbeats 4000000 in
theorem g_look21 {g : Nat → Int} {Zi : Nat → Option (Nat × (Nat → Int))} {d n q : Nat} {D : Nat → Nat × Nat} {s : Nat → Int} {p : Nat → Nat} {c : Nat → Nat → Int} (hd : 1 ≤ d) (hz : zk Zi) (hq : q + 2 ≤ 400000) (hD : wd n p) (hS : bS s) (hC : bC D c) (hW : wp q g n D p s) (x : Int) (b_x : 0 ≤ x ∧ x ≤ 63) : tt Zi d 36 (0, [some (.inr (.inl 21)), some (.inl x), none], [], n, D, s, p, c) (fun R H => ∃ (s' : Nat → Int), R = .inl none ∧ H = (n, D, s', p, c) ∧ bS s' ∧ wp q g n D p s' ∧ fr s s' [2108, 2109, 2110, 2111, 2115]) := by
  refine tt_k 4 (S' := (6, [some (.inr (.inl 21)), some (.inl x), none], [.inl x, .inr (.inl (p 2104)), .inr (.inl 21)], n, D, s, p, c)) rfl ?_
  refine tt_ilb (i := x) (m := 66) (lo := 0) (hi := 65535) rfl ((sw_arr (hW).a21 rfl rfl).2) (by omega) hC ((sw_21 (hW).a21).2) ?_
  intro v1 b2 hvv1
  show tt Zi d 36 (7, [some (.inr (.inl 21)), some (.inl x), none], [.inl v1, .inr (.inl 21)], n, D, s, p, c) _
  refine tt_k 7 (S' := (18, [some (.inr (.inl 21)), some (.inl x), none], [.inl (x + 1), .inr (.inl (p 2103)), .inr (.inl 21)], n, D, (us s 2108 v1), p, c)) rfl ?_
  refine tt_ilb (i := (x + 1)) (m := 66) (lo := 0) (hi := 65535) rfl ((sw_arr (hW).a21 rfl rfl).1) (by omega) hC ((sw_21 (hW).a21).1) ?_
  intro v3 b4 hvv3
  show tt Zi d 36 (19, [some (.inr (.inl 21)), some (.inl x), none], [.inl v3, .inr (.inl 21)], n, D, (us s 2108 v1), p, c) _
  refine tt_k 5 (S' := (28, [some (.inr (.inl 21)), some (.inl x), none], [.inl x, .inr (.inl (p 2103)), .inr (.inl 21)], n, D, (us (us s 2108 v1) 2109 v3), p, c)) rfl ?_
  refine tt_ilb (i := x) (m := 66) (lo := 0) (hi := 65535) rfl ((sw_arr (hW).a21 rfl rfl).1) (by omega) hC ((sw_21 (hW).a21).1) ?_
  intro v5 b6 hvv5
  show tt Zi d 36 (29, [some (.inr (.inl 21)), some (.inl x), none], [.inl v5, .inr (.inl 21)], n, D, (us (us s 2108 v1) 2109 v3), p, c) _
  refine tt_k 9 (S' := (45, [some (.inr (.inl 21)), some (.inl x), none], [.inl (x + 2), .inr (.inl (p 2103)), .inr (.inl 8), .inl 81], n, D, (us (us (us s 2108 v1) 2109 v3) 2110 v5), p, c)) rfl ?_
  refine tt_ilb (i := (x + 2)) (m := 66) (lo := 0) (hi := 65535) rfl ((sw_arr (hW).a21 rfl rfl).1) (by omega) hC ((sw_21 (hW).a21).1) ?_
  intro v7 b8 hvv7
  show tt Zi d 36 (46, [some (.inr (.inl 21)), some (.inl x), none], [.inl v7, .inr (.inl 8), .inl 81], n, D, (us (us (us s 2108 v1) 2109 v3) 2110 v5), p, c) _
  refine tt_k 3 (S' := (51, [some (.inr (.inl 21)), some (.inl x), none], [.inl (v7 - v3), .inr (.inl 8), .inl 81], n, D, (us (us (us s 2108 v1) 2109 v3) 2110 v5), p, c)) rfl ?_
  refine tt_cl (by omega) rfl (g_grade (Zi := Zi) (q := q) (n := n) (D := D) (s := (us (us (us s 2108 v1) 2109 v3) 2110 v5)) (p := p) (c := c) (by omega) hz (by omega) hD (bS_us (bS_us (bS_us hS (show 0 ≤ v1 ∧ v1 ≤ 65535 by omega)) (show 0 ≤ v3 ∧ v3 ≤ 65535 by omega)) (show 0 ≤ v5 ∧ v5 ≤ 65535 by omega)) hC (wp_us (by decide) (wp_us (by decide) (wp_us (by decide) hW))) (v7 - v3) (by omega)) ?_
  rintro _ _ ⟨r9, rfl, rfl, b10⟩
  show tt Zi d 36 (54, [some (.inr (.inl 21)), some (.inl x), none], [.inl r9, .inl 81], n, D, (us (us (us s 2108 v1) 2109 v3) 2110 v5), p, c) _
  refine tt_k 9 (S' := (70, [some (.inr (.inl 21)), some (.inl x), none], [.inl (v3 - v5), .inr (.inl 8), .inl 9, .inl (81 * r9)], n, D, (us (us (us s 2108 v1) 2109 v3) 2110 v5), p, c)) rfl ?_
  refine tt_cl (by omega) rfl (g_grade (Zi := Zi) (q := q) (n := n) (D := D) (s := (us (us (us s 2108 v1) 2109 v3) 2110 v5)) (p := p) (c := c) (by omega) hz (by omega) hD (bS_us (bS_us (bS_us hS (show 0 ≤ v1 ∧ v1 ≤ 65535 by omega)) (show 0 ≤ v3 ∧ v3 ≤ 65535 by omega)) (show 0 ≤ v5 ∧ v5 ≤ 65535 by omega)) hC (wp_us (by decide) (wp_us (by decide) (wp_us (by decide) hW))) (v3 - v5) (by omega)) ?_
  rintro _ _ ⟨r11, rfl, rfl, b12⟩
  show tt Zi d 36 (73, [some (.inr (.inl 21)), some (.inl x), none], [.inl r11, .inl 9, .inl (81 * r9)], n, D, (us (us (us s 2108 v1) 2109 v3) 2110 v5), p, c) _
  refine tt_k 9 (S' := (88, [some (.inr (.inl 21)), some (.inl x), none], [.inl (v5 - v1), .inr (.inl 8), .inl ((81 * r9) + (9 * r11))], n, D, (us (us (us s 2108 v1) 2109 v3) 2110 v5), p, c)) rfl ?_
  refine tt_cl (by omega) rfl (g_grade (Zi := Zi) (q := q) (n := n) (D := D) (s := (us (us (us s 2108 v1) 2109 v3) 2110 v5)) (p := p) (c := c) (by omega) hz (by omega) hD (bS_us (bS_us (bS_us hS (show 0 ≤ v1 ∧ v1 ≤ 65535 by omega)) (show 0 ≤ v3 ∧ v3 ≤ 65535 by omega)) (show 0 ≤ v5 ∧ v5 ≤ 65535 by omega)) hC (wp_us (by decide) (wp_us (by decide) (wp_us (by decide) hW))) (v5 - v1) (by omega)) ?_
  rintro _ _ ⟨r13, rfl, rfl, b14⟩
  show tt Zi d 36 (91, [some (.inr (.inl 21)), some (.inl x), none], [.inl r13, .inl ((81 * r9) + (9 * r11))], n, D, (us (us (us s 2108 v1) 2109 v3) 2110 v5), p, c) _
  refine tt_k 4 (S' := (95, [some (.inr (.inl 21)), some (.inl x), some (.inl ((((81 * r9) + (9 * r11)) + r13)))], [.inl ((((81 * r9) + (9 * r11)) + r13)), .inr (.inl 21)], n, D, (us (us (us s 2108 v1) 2109 v3) 2110 v5), p, c)) rfl ?_
  have K16 : ∀ (j15 : Int) , (0 ≤ j15 ∧ j15 ≤ 1) → ((0 ≤ (((81 * r9) + (9 * r11)) + r13) ∧ j15 = 0) ∨ ((((81 * r9) + (9 * r11)) + r13) < 0 ∧ j15 = 1)) → tt Zi d 36 (103, [some (.inr (.inl 21)), some (.inl x), some (.inl ((((81 * r9) + (9 * r11)) + r13)))], [.inl j15, .inr (.inl 21)], n, D, (us (us (us s 2108 v1) 2109 v3) 2110 v5), p, c) (fun R H => ∃ (s' : Nat → Int), R = .inl none ∧ H = (n, D, s', p, c) ∧ bS s' ∧ wp q g n D p s' ∧ fr s s' [2108, 2109, 2110, 2111, 2115]) := by
    intro j15 b18 hj17
    refine tt_ptb (x := j15) rfl rfl rfl rfl rfl (by omega) ?_
    show tt Zi d 36 (106, [some (.inr (.inl 21)), some (.inl x), some (.inl ((((81 * r9) + (9 * r11)) + r13)))], [], n, D, (us (us (us (us s 2108 v1) 2109 v3) 2110 v5) 2115 j15), p, c) _
    refine tt_k 2 (S' := (108, [some (.inr (.inl 21)), some (.inl x), some (.inl ((((81 * r9) + (9 * r11)) + r13)))], [.inl ((((81 * r9) + (9 * r11)) + r13)), .inr (.inl 21)], n, D, (us (us (us (us s 2108 v1) 2109 v3) 2110 v5) 2115 j15), p, c)) rfl ?_
    refine tt_abs (k := 0) (x := (((81 * r9) + (9 * r11)) + r13)) rfl rfl (Nat.le_of_ble_eq_true rfl) (by omega) ?_
    show tt Zi d 36 (111, [some (.inr (.inl 21)), some (.inl x), some (.inl ((((81 * r9) + (9 * r11)) + r13)))], [.inl ((if 0 ≤ (((81 * r9) + (9 * r11)) + r13) then (((81 * r9) + (9 * r11)) + r13) else -(((81 * r9) + (9 * r11)) + r13))), .inr (.inl 21)], n, D, (us (us (us (us s 2108 v1) 2109 v3) 2110 v5) 2115 j15), p, c) _
    refine tt_k 1 (S' := (114, [some (.inr (.inl 21)), some (.inl x), some (.inl ((((81 * r9) + (9 * r11)) + r13)))], [], n, D, (us (us (us (us (us s 2108 v1) 2109 v3) 2110 v5) 2115 j15) 2111 ((if 0 ≤ (((81 * r9) + (9 * r11)) + r13) then (((81 * r9) + (9 * r11)) + r13) else -(((81 * r9) + (9 * r11)) + r13)))), p, c)) rfl ?_
    exact tt_rtv rfl rfl ⟨(us (us (us (us (us s 2108 v1) 2109 v3) 2110 v5) 2115 j15) 2111 ((if 0 ≤ (((81 * r9) + (9 * r11)) + r13) then (((81 * r9) + (9 * r11)) + r13) else -(((81 * r9) + (9 * r11)) + r13)))), rfl, rfl, (bS_us (bS_us (bS_us (bS_us (bS_us hS (show 0 ≤ v1 ∧ v1 ≤ 65535 by omega)) (show 0 ≤ v3 ∧ v3 ≤ 65535 by omega)) (show 0 ≤ v5 ∧ v5 ≤ 65535 by omega)) (show 0 ≤ j15 ∧ j15 ≤ 1 by omega)) (show 0 ≤ (if 0 ≤ (((81 * r9) + (9 * r11)) + r13) then (((81 * r9) + (9 * r11)) + r13) else -(((81 * r9) + (9 * r11)) + r13)) ∧ (if 0 ≤ (((81 * r9) + (9 * r11)) + r13) then (((81 * r9) + (9 * r11)) + r13) else -(((81 * r9) + (9 * r11)) + r13)) ≤ 366 by omega)), (wp_us (by decide) (wp_us (by decide) (wp_us (by decide) (wp_us (by decide) (wp_us (by decide) hW))))), (fr_us (by decide) (fr_us (by decide) (fr_us (by decide) (fr_us (by decide) (fr_us (by decide) fr_rf)))))⟩
  refine tz_ge (x := (((81 * r9) + (9 * r11)) + r13)) rfl rfl (by omega) (fun h19 => ?_) (fun h19 => ?_)
  · show tt Zi d 36 (102, [some (.inr (.inl 21)), some (.inl x), some (.inl ((((81 * r9) + (9 * r11)) + r13)))], [.inr (.inl 21)], n, D, (us (us (us s 2108 v1) 2109 v3) 2110 v5), p, c) _
    refine tt_k 1 (S' := (103, [some (.inr (.inl 21)), some (.inl x), some (.inl ((((81 * r9) + (9 * r11)) + r13)))], [.inl 0, .inr (.inl 21)], n, D, (us (us (us s 2108 v1) 2109 v3) 2110 v5), p, c)) rfl ?_
    exact K16 0  (by omega) (Or.inl ⟨h19, rfl⟩)
  · show tt Zi d 36 (98, [some (.inr (.inl 21)), some (.inl x), some (.inl ((((81 * r9) + (9 * r11)) + r13)))], [.inr (.inl 21)], n, D, (us (us (us s 2108 v1) 2109 v3) 2110 v5), p, c) _
    refine tt_k 2 (S' := (103, [some (.inr (.inl 21)), some (.inl x), some (.inl ((((81 * r9) + (9 * r11)) + r13)))], [.inl 1, .inr (.inl 21)], n, D, (us (us (us s 2108 v1) 2109 v3) 2110 v5), p, c)) rfl ?_
    exact K16 1  (by omega) (Or.inr (⟨h19, rfl⟩))
set_option maxRecDepth 100000 in
set_option maxHeartbeats 4000000 in
theorem g_aim21 {g : Nat → Int} {Zi : Nat → Option (Nat × (Nat → Int))} {d n q : Nat} {D : Nat → Nat × Nat} {s : Nat → Int} {p : Nat → Nat} {c : Nat → Nat → Int} (hd : 1 ≤ d) (hz : zk Zi) (hq : q + 2 ≤ 400000) (hD : wd n p) (hS : bS s) (hC : bC D c) (hW : wp q g n D p s)  : tt Zi d 38 (0, [some (.inr (.inl 21)), none, none, none, none], [], n, D, s, p, c) (fun R H => ∃ (s' : Nat → Int), R = .inl none ∧ H = (n, D, s', p, c) ∧ bS s' ∧ wp q g n D p s' ∧ fr s s' [2113, 2114, 2116]) := by
  refine tt_k 4 (S' := (8, [some (.inr (.inl 21)), none, none, none, none], [.inl (s 2109), .inl (s 2108)], n, D, s, p, c)) rfl ?_
  have b1 : 0 ≤ (s 2108) ∧ (s 2108) ≤ 65535 := hS 2108
  have b2 : 0 ≤ (s 2109) ∧ (s 2109) ≤ 65535 := hS 2109
  refine tt_min (k := 0) (x := (s 2108)) (y := (s 2109)) rfl rfl (Nat.le_of_ble_eq_true rfl) (by omega) ?_
  refine tt_k 5 (S' := (20, [some (.inr (.inl 21)), some (.inl (min (s 2108) (s 2109))), none, none, none], [.inl (s 2109), .inl (s 2108)], n, D, s, p, c)) rfl ?_
  refine tt_max (k := 0) (x := (s 2108)) (y := (s 2109)) rfl rfl (Nat.le_of_ble_eq_true rfl) (by omega) ?_
  refine tt_k 4 (S' := (29, [some (.inr (.inl 21)), some (.inl (min (s 2108) (s 2109))), some (.inl (max (s 2108) (s 2109))), none, none], [.inl (max (s 2108) (s 2109)), .inl (s 2110)], n, D, s, p, c)) rfl ?_
  have b3 : 0 ≤ (s 2110) ∧ (s 2110) ≤ 65535 := hS 2110
  have K5 : ∀ (j4 : Int) , (-65534 ≤ j4 ∧ j4 ≤ 131069) → (-65535 ≤ j4 ∧ j4 ≤ 131070) → (True) → tt Zi d 38 (62, [some (.inr (.inl 21)), some (.inl (min (s 2108) (s 2109))), some (.inl (max (s 2108) (s 2109))), none, none], [.inl j4], n, D, s, p, c) (fun R H => ∃ (s' : Nat → Int), R = .inl none ∧ H = (n, D, s', p, c) ∧ bS s' ∧ wp q g n D p s' ∧ fr s s' [2113, 2114, 2116]) := by
    intro j4 b7 b8 hj6
    refine tt_k 5 (S' := (71, [some (.inr (.inl 21)), some (.inl (min (s 2108) (s 2109))), some (.inl (max (s 2108) (s 2109))), some (.inl j4), none], [.inl (s 2111), .inr (.inl 9)], n, D, s, p, c)) rfl ?_
    have b9 : 0 ≤ (s 2111) ∧ (s 2111) ≤ 366 := hS 2111
    refine tt_cl (by omega) rfl (g_correction (Zi := Zi) (q := q) (n := n) (D := D) (s := s) (p := p) (c := c) (by omega) hz (by omega) hD hS hC hW (s 2111) (by omega)) ?_
    rintro _ _ ⟨r10, rfl, rfl, b11⟩
    show tt Zi d 38 (74, [some (.inr (.inl 21)), some (.inl (min (s 2108) (s 2109))), some (.inl (max (s 2108) (s 2109))), some (.inl j4), none], [.inl r10], n, D, s, p, c) _
    refine tt_k 6 (S' := (85, [some (.inr (.inl 21)), some (.inl (min (s 2108) (s 2109))), some (.inl (max (s 2108) (s 2109))), some (.inl j4), some (.inl r10)], [.inl (s 2115), .inr (.inl 8), .inr (.inl 21)], n, D, s, p, c)) rfl ?_
    have b12 : 0 ≤ (s 2115) ∧ (s 2115) ≤ 1 := hS 2115
    have K14 : ∀ (j13 : Int) , (-2147549182 ≤ j13 ∧ j13 ≤ 2147614717) → (True) → tt Zi d 38 (99, [some (.inr (.inl 21)), some (.inl (min (s 2108) (s 2109))), some (.inl (max (s 2108) (s 2109))), some (.inl j4), some (.inl r10)], [.inl j13, .inr (.inl 8), .inr (.inl 21)], n, D, s, p, c) (fun R H => ∃ (s' : Nat → Int), R = .inl none ∧ H = (n, D, s', p, c) ∧ bS s' ∧ wp q g n D p s' ∧ fr s s' [2113, 2114, 2116]) := by
      intro j13 b16 hj15
      refine tt_wm (x := j13) ?_
      intro v17 b18 w19
      show tt Zi d 38 (99, [some (.inr (.inl 21)), some (.inl (min (s 2108) (s 2109))), some (.inl (max (s 2108) (s 2109))), some (.inl j4), some (.inl r10)], [.inl v17, .inr (.inl 8), .inr (.inl 21)], n, D, s, p, c) _
      refine tt_cl (by omega) rfl (g_within (Zi := Zi) (q := q) (n := n) (D := D) (s := s) (p := p) (c := c) (by omega) hz (by omega) hD hS hC hW v17 (by omega)) ?_
      rintro _ _ ⟨r20, rfl, rfl, b21⟩
      show tt Zi d 38 (102, [some (.inr (.inl 21)), some (.inl (min (s 2108) (s 2109))), some (.inl (max (s 2108) (s 2109))), some (.inl j4), some (.inl r10)], [.inl r20, .inr (.inl 21)], n, D, s, p, c) _
      refine tt_k 7 (S' := (115, [some (.inr (.inl 21)), some (.inl (min (s 2108) (s 2109))), some (.inl (max (s 2108) (s 2109))), some (.inl j4), some (.inl r10)], [.inl 0, .inl (s 2111), .inr (.inl 9), .inr (.inl 21)], n, D, (us s 2114 r20), p, c)) rfl ?_
      refine tt_cl (by omega) rfl (g_lowBits (Zi := Zi) (q := q) (n := n) (D := D) (s := (us s 2114 r20)) (p := p) (c := c) (by omega) hz (by omega) hD (bS_us hS (show 0 ≤ r20 ∧ r20 ≤ 65535 by omega)) hC (wp_us (by decide) hW) (s 2111) 0 (by omega) (by omega)) ?_
      rintro _ _ ⟨r22, rfl, rfl, b23⟩
      show tt Zi d 38 (118, [some (.inr (.inl 21)), some (.inl (min (s 2108) (s 2109))), some (.inl (max (s 2108) (s 2109))), some (.inl j4), some (.inl r10)], [.inl r22, .inr (.inl 21)], n, D, (us s 2114 r20), p, c) _
      refine tt_k 5 (S' := (129, [some (.inr (.inl 21)), some (.inl (min (s 2108) (s 2109))), some (.inl (max (s 2108) (s 2109))), some (.inl j4), some (.inl r10)], [.inl (s 801), .inr (.inl 21)], n, D, (us (us s 2114 r20) 2113 r22), p, c)) rfl ?_
      have b24 : -2147483648 ≤ (s 801) ∧ (s 801) ≤ 2147483647 := hS 801
      have K26 : ∀ (j25 : Int) , (0 ≤ j25 ∧ j25 ≤ 1) → (True) → tt Zi d 38 (158, [some (.inr (.inl 21)), some (.inl (min (s 2108) (s 2109))), some (.inl (max (s 2108) (s 2109))), some (.inl j4), some (.inl r10)], [.inl j25, .inr (.inl 21)], n, D, (us (us s 2114 r20) 2113 r22), p, c) (fun R H => ∃ (s' : Nat → Int), R = .inl none ∧ H = (n, D, s', p, c) ∧ bS s' ∧ wp q g n D p s' ∧ fr s s' [2113, 2114, 2116]) := by
        intro j25 b28 hj27
        refine tt_ptb (x := j25) rfl rfl rfl rfl rfl (by omega) ?_
        show tt Zi d 38 (161, [some (.inr (.inl 21)), some (.inl (min (s 2108) (s 2109))), some (.inl (max (s 2108) (s 2109))), some (.inl j4), some (.inl r10)], [], n, D, (us (us (us s 2114 r20) 2113 r22) 2116 j25), p, c) _
        exact tt_rtv rfl rfl ⟨(us (us (us s 2114 r20) 2113 r22) 2116 j25), rfl, rfl, (bS_us (bS_us (bS_us hS (show 0 ≤ r20 ∧ r20 ≤ 65535 by omega)) (show 0 ≤ r22 ∧ r22 ≤ 30 by omega)) (show 0 ≤ j25 ∧ j25 ≤ 1 by omega)), (wp_us (by decide) (wp_us (by decide) (wp_us (by decide) hW))), (fr_us (by decide) (fr_us (by decide) (fr_us (by decide) fr_rf)))⟩
      refine tz_ne (x := (s 801)) rfl rfl (by omega) (fun h29 => ?_) (fun h29 => ?_)
      · show tt Zi d 38 (157, [some (.inr (.inl 21)), some (.inl (min (s 2108) (s 2109))), some (.inl (max (s 2108) (s 2109))), some (.inl j4), some (.inl r10)], [.inr (.inl 21)], n, D, (us (us s 2114 r20) 2113 r22), p, c) _
        refine tt_k 1 (S' := (158, [some (.inr (.inl 21)), some (.inl (min (s 2108) (s 2109))), some (.inl (max (s 2108) (s 2109))), some (.inl j4), some (.inl r10)], [.inl 0, .inr (.inl 21)], n, D, (us (us s 2114 r20) 2113 r22), p, c)) rfl ?_
        exact K26 0  (by omega) (trivial)
      · show tt Zi d 38 (132, [some (.inr (.inl 21)), some (.inl (min (s 2108) (s 2109))), some (.inl (max (s 2108) (s 2109))), some (.inl j4), some (.inl r10)], [.inr (.inl 21)], n, D, (us (us s 2114 r20) 2113 r22), p, c) _
        refine tt_k 2 (S' := (136, [some (.inr (.inl 21)), some (.inl (min (s 2108) (s 2109))), some (.inl (max (s 2108) (s 2109))), some (.inl j4), some (.inl r10)], [.inl r22, .inr (.inl 21)], n, D, (us (us s 2114 r20) 2113 r22), p, c)) rfl ?_
        refine tz_ne (x := r22) rfl rfl (by omega) (fun h30 => ?_) (fun h30 => ?_)
        · show tt Zi d 38 (157, [some (.inr (.inl 21)), some (.inl (min (s 2108) (s 2109))), some (.inl (max (s 2108) (s 2109))), some (.inl j4), some (.inl r10)], [.inr (.inl 21)], n, D, (us (us s 2114 r20) 2113 r22), p, c) _
          refine tt_k 1 (S' := (158, [some (.inr (.inl 21)), some (.inl (min (s 2108) (s 2109))), some (.inl (max (s 2108) (s 2109))), some (.inl j4), some (.inl r10)], [.inl 0, .inr (.inl 21)], n, D, (us (us s 2114 r20) 2113 r22), p, c)) rfl ?_
          exact K26 0  (by omega) (trivial)
        · show tt Zi d 38 (139, [some (.inr (.inl 21)), some (.inl (min (s 2108) (s 2109))), some (.inl (max (s 2108) (s 2109))), some (.inl j4), some (.inl r10)], [.inr (.inl 21)], n, D, (us (us s 2114 r20) 2113 r22), p, c) _
          refine tt_k 4 (S' := (147, [some (.inr (.inl 21)), some (.inl (min (s 2108) (s 2109))), some (.inl (max (s 2108) (s 2109))), some (.inl j4), some (.inl r10)], [.inl (s 2111), .inr (.inl 9), .inr (.inl 21)], n, D, (us (us s 2114 r20) 2113 r22), p, c)) rfl ?_
          refine tt_cl (by omega) rfl (g_leansLow (Zi := Zi) (q := q) (n := n) (D := D) (s := (us (us s 2114 r20) 2113 r22)) (p := p) (c := c) (by omega) hz (by omega) hD (bS_us (bS_us hS (show 0 ≤ r20 ∧ r20 ≤ 65535 by omega)) (show 0 ≤ r22 ∧ r22 ≤ 30 by omega)) hC (wp_us (by decide) (wp_us (by decide) hW)) (s 2111) (by omega)) ?_
          rintro _ _ ⟨r31, rfl, rfl, b32⟩
          show tt Zi d 38 (150, [some (.inr (.inl 21)), some (.inl (min (s 2108) (s 2109))), some (.inl (max (s 2108) (s 2109))), some (.inl j4), some (.inl r10)], [.inl r31, .inr (.inl 21)], n, D, (us (us s 2114 r20) 2113 r22), p, c) _
          refine tz_eq (x := r31) rfl rfl (by omega) (fun h33 => ?_) (fun h33 => ?_)
          · show tt Zi d 38 (157, [some (.inr (.inl 21)), some (.inl (min (s 2108) (s 2109))), some (.inl (max (s 2108) (s 2109))), some (.inl j4), some (.inl r10)], [.inr (.inl 21)], n, D, (us (us s 2114 r20) 2113 r22), p, c) _
            refine tt_k 1 (S' := (158, [some (.inr (.inl 21)), some (.inl (min (s 2108) (s 2109))), some (.inl (max (s 2108) (s 2109))), some (.inl j4), some (.inl r10)], [.inl 0, .inr (.inl 21)], n, D, (us (us s 2114 r20) 2113 r22), p, c)) rfl ?_
            exact K26 0  (by omega) (trivial)
          · show tt Zi d 38 (153, [some (.inr (.inl 21)), some (.inl (min (s 2108) (s 2109))), some (.inl (max (s 2108) (s 2109))), some (.inl j4), some (.inl r10)], [.inr (.inl 21)], n, D, (us (us s 2114 r20) 2113 r22), p, c) _
            refine tt_k 2 (S' := (158, [some (.inr (.inl 21)), some (.inl (min (s 2108) (s 2109))), some (.inl (max (s 2108) (s 2109))), some (.inl j4), some (.inl r10)], [.inl 1, .inr (.inl 21)], n, D, (us (us s 2114 r20) 2113 r22), p, c)) rfl ?_
            exact K26 1  (by omega) (trivial)
    refine tz_eq (x := (s 2115)) rfl rfl (by omega) (fun h34 => ?_) (fun h34 => ?_)
    · show tt Zi d 38 (95, [some (.inr (.inl 21)), some (.inl (min (s 2108) (s 2109))), some (.inl (max (s 2108) (s 2109))), some (.inl j4), some (.inl r10)], [.inr (.inl 8), .inr (.inl 21)], n, D, s, p, c) _
      refine tt_k 3 (S' := (99, [some (.inr (.inl 21)), some (.inl (min (s 2108) (s 2109))), some (.inl (max (s 2108) (s 2109))), some (.inl j4), some (.inl r10)], [.inl (j4 + r10), .inr (.inl 8), .inr (.inl 21)], n, D, s, p, c)) rfl ?_
      exact K14 (j4 + r10)  (by omega) (trivial)
    · show tt Zi d 38 (88, [some (.inr (.inl 21)), some (.inl (min (s 2108) (s 2109))), some (.inl (max (s 2108) (s 2109))), some (.inl j4), some (.inl r10)], [.inr (.inl 8), .inr (.inl 21)], n, D, s, p, c) _
      refine tt_k 4 (S' := (99, [some (.inr (.inl 21)), some (.inl (min (s 2108) (s 2109))), some (.inl (max (s 2108) (s 2109))), some (.inl j4), some (.inl r10)], [.inl (j4 - r10), .inr (.inl 8), .inr (.inl 21)], n, D, s, p, c)) rfl ?_
      exact K14 (j4 - r10)  (by omega) (trivial)
  refine tb_lt (x := (s 2110)) (y := (max (s 2108) (s 2109))) rfl rfl (by omega) (fun h35 => ?_) (fun h35 => ?_)
  · show tt Zi d 38 (36, [some (.inr (.inl 21)), some (.inl (min (s 2108) (s 2109))), some (.inl (max (s 2108) (s 2109))), none, none], [], n, D, s, p, c) _
    refine tt_k 3 (S' := (41, [some (.inr (.inl 21)), some (.inl (min (s 2108) (s 2109))), some (.inl (max (s 2108) (s 2109))), none, none], [.inl (min (s 2108) (s 2109)), .inl (s 2110)], n, D, s, p, c)) rfl ?_
    refine tb_gt (x := (s 2110)) (y := (min (s 2108) (s 2109))) rfl rfl (by omega) (fun h36 => ?_) (fun h36 => ?_)
    · show tt Zi d 38 (48, [some (.inr (.inl 21)), some (.inl (min (s 2108) (s 2109))), some (.inl (max (s 2108) (s 2109))), none, none], [], n, D, s, p, c) _
      refine tt_k 8 (S' := (62, [some (.inr (.inl 21)), some (.inl (min (s 2108) (s 2109))), some (.inl (max (s 2108) (s 2109))), none, none], [.inl ((((s 2108) + (s 2109)) - (s 2110)))], n, D, s, p, c)) rfl ?_
      exact K5 ((((s 2108) + (s 2109)) - (s 2110)))  (by omega) (by omega) (trivial)
    · show tt Zi d 38 (44, [some (.inr (.inl 21)), some (.inl (min (s 2108) (s 2109))), some (.inl (max (s 2108) (s 2109))), none, none], [], n, D, s, p, c) _
      refine tt_k 2 (S' := (62, [some (.inr (.inl 21)), some (.inl (min (s 2108) (s 2109))), some (.inl (max (s 2108) (s 2109))), none, none], [.inl (max (s 2108) (s 2109))], n, D, s, p, c)) rfl ?_
      exact K5 (max (s 2108) (s 2109))  (by omega) (by omega) (trivial)
  · show tt Zi d 38 (32, [some (.inr (.inl 21)), some (.inl (min (s 2108) (s 2109))), some (.inl (max (s 2108) (s 2109))), none, none], [], n, D, s, p, c) _
    refine tt_k 2 (S' := (62, [some (.inr (.inl 21)), some (.inl (min (s 2108) (s 2109))), some (.inl (max (s 2108) (s 2109))), none, none], [.inl (min (s 2108) (s 2109))], n, D, s, p, c)) rfl ?_
    exact K5 (min (s 2108) (s 2109))  (by omega) (by omega) (trivial)
set_option maxRecDepth 100000 in
set_option maxHeartbeats 4000000 in
theorem g_aimStop21 {g : Nat → Int} {Zi : Nat → Option (Nat × (Nat → Int))} {d n q : Nat} {D : Nat → Nat × Nat} {s : Nat → Int} {p : Nat → Nat} {c : Nat → Nat → Int} (hd : 1 ≤ d) (hz : zk Zi) (hq : q + 2 ≤ 400000) (hD : wd n p) (hS : bS s) (hC : bC D c) (hW : wp q g n D p s) (x : Int) (b_x : 0 ≤ x ∧ x ≤ 63) : tt Zi d 67 (0, [some (.inr (.inl 21)), some (.inl x)], [], n, D, s, p, c) (fun R H => ∃ (s' : Nat → Int), R = .inl none ∧ H = (n, D, s', p, c) ∧ bS s' ∧ wp q g n D p s' ∧ fr s s' [2109, 2111, 2112, 2113, 2114, 2115, 2116]) := by
  refine tt_k 6 (S' := (8, [some (.inr (.inl 21)), some (.inl x)], [.inl (x + 1), .inr (.inl (p 2103)), .inr (.inl 21)], n, D, s, p, c)) rfl ?_
  refine tt_ilb (i := (x + 1)) (m := 66) (lo := 0) (hi := 65535) rfl ((sw_arr (hW).a21 rfl rfl).1) (by omega) hC ((sw_21 (hW).a21).1) ?_
  intro v1 b2 hvv1
  show tt Zi d 67 (9, [some (.inr (.inl 21)), some (.inl x)], [.inl v1, .inr (.inl 21)], n, D, s, p, c) _
  refine tt_k 7 (S' := (22, [some (.inr (.inl 21)), some (.inl x)], [.inl ((s 2108) - v1), .inr (.inl 21)], n, D, (us s 2109 v1), p, c)) rfl ?_
  have b3 : 0 ≤ (s 2108) ∧ (s 2108) ≤ 65535 := hS 2108
  refine tt_abs (k := 0) (x := ((s 2108) - v1)) rfl rfl (Nat.le_of_ble_eq_true rfl) (by omega) ?_
  show tt Zi d 67 (25, [some (.inr (.inl 21)), some (.inl x)], [.inl ((if 0 ≤ ((s 2108) - v1) then ((s 2108) - v1) else -((s 2108) - v1))), .inr (.inl 21)], n, D, (us s 2109 v1), p, c) _
  refine tt_k 3 (S' := (32, [some (.inr (.inl 21)), some (.inl x)], [.inl (s 801), .inl ((if 0 ≤ ((s 2108) - v1) then ((s 2108) - v1) else -((s 2108) - v1))), .inr (.inl 21)], n, D, (us s 2109 v1), p, c)) rfl ?_
  have b4 : -2147483648 ≤ (s 801) ∧ (s 801) ≤ 2147483647 := hS 801
  have K6 : ∀ (j5 : Int) , (0 ≤ j5 ∧ j5 ≤ 1) → (True) → tt Zi d 67 (40, [some (.inr (.inl 21)), some (.inl x)], [.inl j5, .inr (.inl 21)], n, D, (us s 2109 v1), p, c) (fun R H => ∃ (s' : Nat → Int), R = .inl none ∧ H = (n, D, s', p, c) ∧ bS s' ∧ wp q g n D p s' ∧ fr s s' [2109, 2111, 2112, 2113, 2114, 2115, 2116]) := by
    intro j5 b8 hj7
    refine tt_k 11 (S' := (61, [some (.inr (.inl 21)), some (.inl x)], [.inl 1, .inl j5, .inr (.inl 21)], n, D, (us (us (us s 2109 v1) 2112 j5) 2111 (365 + j5)), p, c)) rfl ?_
    have K10 : ∀ (j9 : Int) , (0 ≤ j9 ∧ j9 ≤ 65535) → (True) → tt Zi d 67 (75, [some (.inr (.inl 21)), some (.inl x)], [.inl j9, .inr (.inl 21)], n, D, (us (us (us s 2109 v1) 2112 j5) 2111 (365 + j5)), p, c) (fun R H => ∃ (s' : Nat → Int), R = .inl none ∧ H = (n, D, s', p, c) ∧ bS s' ∧ wp q g n D p s' ∧ fr s s' [2109, 2111, 2112, 2113, 2114, 2115, 2116]) := by
      intro j9 b12 hj11
      refine tt_k 4 (S' := (83, [some (.inr (.inl 21)), some (.inl x)], [.inl j5, .inr (.inl 21)], n, D, (us (us (us (us s 2109 v1) 2112 j5) 2111 (365 + j5)) 2114 j9), p, c)) rfl ?_
      have K14 : ∀ (j13 : Int) , (0 ≤ j13 ∧ j13 ≤ 1) → (True) → tt Zi d 67 (102, [some (.inr (.inl 21)), some (.inl x)], [.inl j13, .inr (.inl 21)], n, D, (us (us (us (us s 2109 v1) 2112 j5) 2111 (365 + j5)) 2114 j9), p, c) (fun R H => ∃ (s' : Nat → Int), R = .inl none ∧ H = (n, D, s', p, c) ∧ bS s' ∧ wp q g n D p s' ∧ fr s s' [2109, 2111, 2112, 2113, 2114, 2115, 2116]) := by
        intro j13 b16 hj15
        refine tt_ptb (x := j13) rfl rfl rfl rfl rfl (by omega) ?_
        show tt Zi d 67 (105, [some (.inr (.inl 21)), some (.inl x)], [], n, D, (us (us (us (us (us s 2109 v1) 2112 j5) 2111 (365 + j5)) 2114 j9) 2115 j13), p, c) _
        refine tt_k 8 (S' := (119, [some (.inr (.inl 21)), some (.inl x)], [.inl 1, .inl j5, .inl (365 + j5), .inr (.inl 9), .inr (.inl 21)], n, D, (us (us (us (us (us s 2109 v1) 2112 j5) 2111 (365 + j5)) 2114 j9) 2115 j13), p, c)) rfl ?_
        have K18 : ∀ (j17 : Int) , (0 ≤ j17 ∧ j17 ≤ 1) → (True) → tt Zi d 67 (127, [some (.inr (.inl 21)), some (.inl x)], [.inl j17, .inl (365 + j5), .inr (.inl 9), .inr (.inl 21)], n, D, (us (us (us (us (us s 2109 v1) 2112 j5) 2111 (365 + j5)) 2114 j9) 2115 j13), p, c) (fun R H => ∃ (s' : Nat → Int), R = .inl none ∧ H = (n, D, s', p, c) ∧ bS s' ∧ wp q g n D p s' ∧ fr s s' [2109, 2111, 2112, 2113, 2114, 2115, 2116]) := by
          intro j17 b20 hj19
          refine tt_cl (by omega) rfl (g_lowBits (Zi := Zi) (q := q) (n := n) (D := D) (s := (us (us (us (us (us s 2109 v1) 2112 j5) 2111 (365 + j5)) 2114 j9) 2115 j13)) (p := p) (c := c) (by omega) hz (by omega) hD (bS_us (bS_us (bS_us (bS_us (bS_us hS (show 0 ≤ v1 ∧ v1 ≤ 65535 by omega)) (show 0 ≤ j5 ∧ j5 ≤ 1 by omega)) (show 0 ≤ (365 + j5) ∧ (365 + j5) ≤ 366 by omega)) (show 0 ≤ j9 ∧ j9 ≤ 65535 by omega)) (show 0 ≤ j13 ∧ j13 ≤ 1 by omega)) hC (wp_us (by decide) (wp_us (by decide) (wp_us (by decide) (wp_us (by decide) (wp_us (by decide) hW))))) (365 + j5) j17 (by omega) (by omega)) ?_
          rintro _ _ ⟨r21, rfl, rfl, b22⟩
          show tt Zi d 67 (130, [some (.inr (.inl 21)), some (.inl x)], [.inl r21, .inr (.inl 21)], n, D, (us (us (us (us (us s 2109 v1) 2112 j5) 2111 (365 + j5)) 2114 j9) 2115 j13), p, c) _
          refine tt_k 4 (S' := (138, [some (.inr (.inl 21)), some (.inl x)], [.inl r21, .inr (.inl 21)], n, D, (us (us (us (us (us (us s 2109 v1) 2112 j5) 2111 (365 + j5)) 2114 j9) 2115 j13) 2113 r21), p, c)) rfl ?_
          have K24 : ∀ (j23 : Int) , (0 ≤ j23 ∧ j23 ≤ 1) → (True) → tt Zi d 67 (160, [some (.inr (.inl 21)), some (.inl x)], [.inl j23, .inr (.inl 21)], n, D, (us (us (us (us (us (us s 2109 v1) 2112 j5) 2111 (365 + j5)) 2114 j9) 2115 j13) 2113 r21), p, c) (fun R H => ∃ (s' : Nat → Int), R = .inl none ∧ H = (n, D, s', p, c) ∧ bS s' ∧ wp q g n D p s' ∧ fr s s' [2109, 2111, 2112, 2113, 2114, 2115, 2116]) := by
            intro j23 b26 hj25
            refine tt_ptb (x := j23) rfl rfl rfl rfl rfl (by omega) ?_
            show tt Zi d 67 (163, [some (.inr (.inl 21)), some (.inl x)], [], n, D, (us (us (us (us (us (us (us s 2109 v1) 2112 j5) 2111 (365 + j5)) 2114 j9) 2115 j13) 2113 r21) 2116 j23), p, c) _
            exact tt_rtv rfl rfl ⟨(us (us (us (us (us (us (us s 2109 v1) 2112 j5) 2111 (365 + j5)) 2114 j9) 2115 j13) 2113 r21) 2116 j23), rfl, rfl, (bS_us (bS_us (bS_us (bS_us (bS_us (bS_us (bS_us hS (show 0 ≤ v1 ∧ v1 ≤ 65535 by omega)) (show 0 ≤ j5 ∧ j5 ≤ 1 by omega)) (show 0 ≤ (365 + j5) ∧ (365 + j5) ≤ 366 by omega)) (show 0 ≤ j9 ∧ j9 ≤ 65535 by omega)) (show 0 ≤ j13 ∧ j13 ≤ 1 by omega)) (show 0 ≤ r21 ∧ r21 ≤ 30 by omega)) (show 0 ≤ j23 ∧ j23 ≤ 1 by omega)), (wp_us (by decide) (wp_us (by decide) (wp_us (by decide) (wp_us (by decide) (wp_us (by decide) (wp_us (by decide) (wp_us (by decide) hW))))))), (fr_us (by decide) (fr_us (by decide) (fr_us (by decide) (fr_us (by decide) (fr_us (by decide) (fr_us (by decide) (fr_us (by decide) fr_rf)))))))⟩
          refine tz_ne (x := r21) rfl rfl (by omega) (fun h27 => ?_) (fun h27 => ?_)
          · show tt Zi d 67 (159, [some (.inr (.inl 21)), some (.inl x)], [.inr (.inl 21)], n, D, (us (us (us (us (us (us s 2109 v1) 2112 j5) 2111 (365 + j5)) 2114 j9) 2115 j13) 2113 r21), p, c) _
            refine tt_k 1 (S' := (160, [some (.inr (.inl 21)), some (.inl x)], [.inl 0, .inr (.inl 21)], n, D, (us (us (us (us (us (us s 2109 v1) 2112 j5) 2111 (365 + j5)) 2114 j9) 2115 j13) 2113 r21), p, c)) rfl ?_
            exact K24 0  (by omega) (trivial)
          · show tt Zi d 67 (141, [some (.inr (.inl 21)), some (.inl x)], [.inr (.inl 21)], n, D, (us (us (us (us (us (us s 2109 v1) 2112 j5) 2111 (365 + j5)) 2114 j9) 2115 j13) 2113 r21), p, c) _
            refine tt_k 4 (S' := (149, [some (.inr (.inl 21)), some (.inl x)], [.inl (365 + j5), .inr (.inl 9), .inr (.inl 21)], n, D, (us (us (us (us (us (us s 2109 v1) 2112 j5) 2111 (365 + j5)) 2114 j9) 2115 j13) 2113 r21), p, c)) rfl ?_
            refine tt_cl (by omega) rfl (g_isSeldom (Zi := Zi) (q := q) (n := n) (D := D) (s := (us (us (us (us (us (us s 2109 v1) 2112 j5) 2111 (365 + j5)) 2114 j9) 2115 j13) 2113 r21)) (p := p) (c := c) (by omega) hz (by omega) hD (bS_us (bS_us (bS_us (bS_us (bS_us (bS_us hS (show 0 ≤ v1 ∧ v1 ≤ 65535 by omega)) (show 0 ≤ j5 ∧ j5 ≤ 1 by omega)) (show 0 ≤ (365 + j5) ∧ (365 + j5) ≤ 366 by omega)) (show 0 ≤ j9 ∧ j9 ≤ 65535 by omega)) (show 0 ≤ j13 ∧ j13 ≤ 1 by omega)) (show 0 ≤ r21 ∧ r21 ≤ 30 by omega)) hC (wp_us (by decide) (wp_us (by decide) (wp_us (by decide) (wp_us (by decide) (wp_us (by decide) (wp_us (by decide) hW)))))) (365 + j5) (by omega)) ?_
            rintro _ _ ⟨r28, rfl, rfl, b29⟩
            show tt Zi d 67 (152, [some (.inr (.inl 21)), some (.inl x)], [.inl r28, .inr (.inl 21)], n, D, (us (us (us (us (us (us s 2109 v1) 2112 j5) 2111 (365 + j5)) 2114 j9) 2115 j13) 2113 r21), p, c) _
            refine tz_eq (x := r28) rfl rfl (by omega) (fun h30 => ?_) (fun h30 => ?_)
            · show tt Zi d 67 (159, [some (.inr (.inl 21)), some (.inl x)], [.inr (.inl 21)], n, D, (us (us (us (us (us (us s 2109 v1) 2112 j5) 2111 (365 + j5)) 2114 j9) 2115 j13) 2113 r21), p, c) _
              refine tt_k 1 (S' := (160, [some (.inr (.inl 21)), some (.inl x)], [.inl 0, .inr (.inl 21)], n, D, (us (us (us (us (us (us s 2109 v1) 2112 j5) 2111 (365 + j5)) 2114 j9) 2115 j13) 2113 r21), p, c)) rfl ?_
              exact K24 0  (by omega) (trivial)
            · show tt Zi d 67 (155, [some (.inr (.inl 21)), some (.inl x)], [.inr (.inl 21)], n, D, (us (us (us (us (us (us s 2109 v1) 2112 j5) 2111 (365 + j5)) 2114 j9) 2115 j13) 2113 r21), p, c) _
              refine tt_k 2 (S' := (160, [some (.inr (.inl 21)), some (.inl x)], [.inl 1, .inr (.inl 21)], n, D, (us (us (us (us (us (us s 2109 v1) 2112 j5) 2111 (365 + j5)) 2114 j9) 2115 j13) 2113 r21), p, c)) rfl ?_
              exact K24 1  (by omega) (trivial)
        refine tb_ne (x := j5) (y := 1) rfl rfl (by omega) (fun h31 => ?_) (fun h31 => ?_)
        · show tt Zi d 67 (126, [some (.inr (.inl 21)), some (.inl x)], [.inl (365 + j5), .inr (.inl 9), .inr (.inl 21)], n, D, (us (us (us (us (us s 2109 v1) 2112 j5) 2111 (365 + j5)) 2114 j9) 2115 j13), p, c) _
          refine tt_k 1 (S' := (127, [some (.inr (.inl 21)), some (.inl x)], [.inl 0, .inl (365 + j5), .inr (.inl 9), .inr (.inl 21)], n, D, (us (us (us (us (us s 2109 v1) 2112 j5) 2111 (365 + j5)) 2114 j9) 2115 j13), p, c)) rfl ?_
          exact K18 0  (by omega) (trivial)
        · show tt Zi d 67 (122, [some (.inr (.inl 21)), some (.inl x)], [.inl (365 + j5), .inr (.inl 9), .inr (.inl 21)], n, D, (us (us (us (us (us s 2109 v1) 2112 j5) 2111 (365 + j5)) 2114 j9) 2115 j13), p, c) _
          refine tt_k 2 (S' := (127, [some (.inr (.inl 21)), some (.inl x)], [.inl 1, .inl (365 + j5), .inr (.inl 9), .inr (.inl 21)], n, D, (us (us (us (us (us s 2109 v1) 2112 j5) 2111 (365 + j5)) 2114 j9) 2115 j13), p, c)) rfl ?_
          exact K18 1  (by omega) (trivial)
      refine tz_ne (x := j5) rfl rfl (by omega) (fun h32 => ?_) (fun h32 => ?_)
      · show tt Zi d 67 (101, [some (.inr (.inl 21)), some (.inl x)], [.inr (.inl 21)], n, D, (us (us (us (us s 2109 v1) 2112 j5) 2111 (365 + j5)) 2114 j9), p, c) _
        refine tt_k 1 (S' := (102, [some (.inr (.inl 21)), some (.inl x)], [.inl 0, .inr (.inl 21)], n, D, (us (us (us (us s 2109 v1) 2112 j5) 2111 (365 + j5)) 2114 j9), p, c)) rfl ?_
        exact K14 0  (by omega) (trivial)
      · show tt Zi d 67 (86, [some (.inr (.inl 21)), some (.inl x)], [.inr (.inl 21)], n, D, (us (us (us (us s 2109 v1) 2112 j5) 2111 (365 + j5)) 2114 j9), p, c) _
        refine tt_k 4 (S' := (94, [some (.inr (.inl 21)), some (.inl x)], [.inl v1, .inl (s 2108), .inr (.inl 21)], n, D, (us (us (us (us s 2109 v1) 2112 j5) 2111 (365 + j5)) 2114 j9), p, c)) rfl ?_
        refine tb_le (x := (s 2108)) (y := v1) rfl rfl (by omega) (fun h33 => ?_) (fun h33 => ?_)
        · show tt Zi d 67 (101, [some (.inr (.inl 21)), some (.inl x)], [.inr (.inl 21)], n, D, (us (us (us (us s 2109 v1) 2112 j5) 2111 (365 + j5)) 2114 j9), p, c) _
          refine tt_k 1 (S' := (102, [some (.inr (.inl 21)), some (.inl x)], [.inl 0, .inr (.inl 21)], n, D, (us (us (us (us s 2109 v1) 2112 j5) 2111 (365 + j5)) 2114 j9), p, c)) rfl ?_
          exact K14 0  (by omega) (trivial)
        · show tt Zi d 67 (97, [some (.inr (.inl 21)), some (.inl x)], [.inr (.inl 21)], n, D, (us (us (us (us s 2109 v1) 2112 j5) 2111 (365 + j5)) 2114 j9), p, c) _
          refine tt_k 2 (S' := (102, [some (.inr (.inl 21)), some (.inl x)], [.inl 1, .inr (.inl 21)], n, D, (us (us (us (us s 2109 v1) 2112 j5) 2111 (365 + j5)) 2114 j9), p, c)) rfl ?_
          exact K14 1  (by omega) (trivial)
    refine tb_ne (x := j5) (y := 1) rfl rfl (by omega) (fun h34 => ?_) (fun h34 => ?_)
    · show tt Zi d 67 (71, [some (.inr (.inl 21)), some (.inl x)], [.inr (.inl 21)], n, D, (us (us (us s 2109 v1) 2112 j5) 2111 (365 + j5)), p, c) _
      refine tt_k 2 (S' := (75, [some (.inr (.inl 21)), some (.inl x)], [.inl v1, .inr (.inl 21)], n, D, (us (us (us s 2109 v1) 2112 j5) 2111 (365 + j5)), p, c)) rfl ?_
      exact K10 v1  (by omega) (trivial)
    · show tt Zi d 67 (64, [some (.inr (.inl 21)), some (.inl x)], [.inr (.inl 21)], n, D, (us (us (us s 2109 v1) 2112 j5) 2111 (365 + j5)), p, c) _
      refine tt_k 3 (S' := (75, [some (.inr (.inl 21)), some (.inl x)], [.inl (s 2108), .inr (.inl 21)], n, D, (us (us (us s 2109 v1) 2112 j5) 2111 (365 + j5)), p, c)) rfl ?_
      exact K10 (s 2108)  (by omega) (trivial)
  refine tb_gt (x := (if 0 ≤ ((s 2108) - v1) then ((s 2108) - v1) else -((s 2108) - v1))) (y := (s 801)) rfl rfl (by omega) (fun h35 => ?_) (fun h35 => ?_)
  · show tt Zi d 67 (39, [some (.inr (.inl 21)), some (.inl x)], [.inr (.inl 21)], n, D, (us s 2109 v1), p, c) _
    refine tt_k 1 (S' := (40, [some (.inr (.inl 21)), some (.inl x)], [.inl 0, .inr (.inl 21)], n, D, (us s 2109 v1), p, c)) rfl ?_
    exact K6 0  (by omega) (trivial)
  · show tt Zi d 67 (35, [some (.inr (.inl 21)), some (.inl x)], [.inr (.inl 21)], n, D, (us s 2109 v1), p, c) _
    refine tt_k 2 (S' := (40, [some (.inr (.inl 21)), some (.inl x)], [.inl 1, .inr (.inl 21)], n, D, (us s 2109 v1), p, c)) rfl ?_
    exact K6 1  (by omega) (trivial)
set_option maxRecDepth 100000 in
set_option maxHeartbeats 4000000 in
theorem g_stopLimit21 {g : Nat → Int} {Zi : Nat → Option (Nat × (Nat → Int))} {d n q : Nat} {D : Nat → Nat × Nat} {s : Nat → Int} {p : Nat → Nat} {c : Nat → Nat → Int} (hd : 1 ≤ d) (hz : zk Zi) (hq : q + 2 ≤ 400000) (hD : wd n p) (hS : bS s) (hC : bC D c) (hW : wp q g n D p s)  : tt Zi d 70 (0, [some (.inr (.inl 21))], [], n, D, s, p, c) (fun R H => ∃ (r : Int), R = .inl (some (.inl r)) ∧ H = (n, D, s, p, c) ∧ (-16 ≤ r ∧ r ≤ 63)) := by
  refine tt_k 7 (S' := (13, [some (.inr (.inl 21))], [.inr (.inl 9), .inl ((s 809) - 1)], n, D, s, p, c)) rfl ?_
  refine tt_cl (by omega) rfl (g_runBits (Zi := Zi) (q := q) (n := n) (D := D) (s := s) (p := p) (c := c) (by omega) hz (by omega) hD hS hC hW ) ?_
  rintro _ _ ⟨r1, rfl, rfl, b2⟩
  show tt Zi d 70 (16, [some (.inr (.inl 21))], [.inl r1, .inl ((s 809) - 1)], n, D, s, p, c) _
  refine tt_k 1 (S' := (17, [some (.inr (.inl 21))], [.inl ((((s 809) - 1) - r1))], n, D, s, p, c)) rfl ?_
  have b3 : 0 ≤ (s 809) ∧ (s 809) ≤ 64 := hS 809
  exact tt_rti rfl rfl ⟨(((s 809) - 1) - r1), rfl, rfl, by omega⟩
set_option maxRecDepth 100000 in
set_option maxHeartbeats 4000000 in
theorem g_setRun21_L2 {g : Nat → Int} {Zi : Nat → Option (Nat × (Nat → Int))} {d n q : Nat} {D : Nat → Nat × Nat} {s : Nat → Int} {p : Nat → Nat} {c : Nat → Nat → Int}  {Q : mi_Rs → mi_H → Prop} (hd : 0 ≤ d) (hz : zk Zi) (hq : q + 0 ≤ 400001) (hD : wd n p) (hS : bS s) (hC : bC D c) (hW : wp q g n D p s) (x : Int) (n_ : Int) (b_x : 0 ≤ x ∧ x ≤ 64) (b_n_ : 0 ≤ n_ ∧ n_ ≤ 64) (hq0 : x + n_ ≤ 65)
  (hK : ∀ (i : Int) (c0 : Nat → Nat → Int) (b_i : 1 ≤ i ∧ i ≤ 65) (hC0 : bC D c0) (hK0 : fk p c n p c0 [2104]) (i0 : i ≤ n_ + 1), (True) → tt Zi d 63 (25, [some (.inr (.inl 21)), some (.inl x), some (.inl n_), some (.inl i)], [], n, D, s, p, c0) Q) :
  ∀ (m : Nat) (i : Int) (c0 : Nat → Nat → Int) (b_i : 1 ≤ i ∧ i ≤ 65) (hC0 : bC D c0) (hK0 : fk p c n p c0 [2104]) (i0 : i ≤ n_ + 1), (n_ + 1 - i).toNat < m → tt Zi d 63 (2, [some (.inr (.inl 21)), some (.inl x), some (.inl n_), some (.inl i)], [], n, D, s, p, c0) Q := by
  intro m
  induction m with
  | zero => intro i c0 b_i hC0 hK0 i0 hm; exact absurd hm (by omega)
  | succ m ih =>
    intro i c0 b_i hC0 hK0 i0 hm
    refine tt_k 2 (S' := (4, [some (.inr (.inl 21)), some (.inl x), some (.inl n_), some (.inl i)], [.inl n_, .inl i], n, D, s, p, c0)) rfl ?_
    refine tb_gt (x := i) (y := n_) rfl rfl (by omega) (fun h1 => ?_) (fun h1 => ?_)
    · show tt Zi d 63 (25, [some (.inr (.inl 21)), some (.inl x), some (.inl n_), some (.inl i)], [], n, D, s, p, c0) _
      exact hK i c0 (by omega) hC0 hK0 (show i ≤ n_ + 1 by omega) trivial
    · show tt Zi d 63 (7, [some (.inr (.inl 21)), some (.inl x), some (.inl n_), some (.inl i)], [], n, D, s, p, c0) _
      refine tt_k 7 (S' := (18, [some (.inr (.inl 21)), some (.inl x), some (.inl n_), some (.inl i)], [.inl (s 2108), .inl (x + i), .inr (.inl (p 2104))], n, D, s, p, c0)) rfl ?_
      have b2 : 0 ≤ (s 2108) ∧ (s 2108) ≤ 65535 := hS 2108
      refine tt_isb (i := (x + i)) (m := 66) (lo := 0) (hi := 65535) (x := (s 2108)) rfl ((sw_arr (hW).a21 rfl rfl).2) (by omega) hC0 ((sw_21 (hW).a21).2) (by omega) ?_
      intro c3 hC3 ec3
      show tt Zi d 63 (19, [some (.inr (.inl 21)), some (.inl x), some (.inl n_), some (.inl i)], [], n, D, s, p, c3) _
      have FK4 : fk p c n p c3 [2104] := fk_st (k := 2104) hK0 ec3 (by decide) rfl
      refine tt_k 2 (S' := (2, [some (.inr (.inl 21)), some (.inl x), some (.inl n_), some (.inl (i + 1))], [], n, D, s, p, c3)) rfl ?_
      exact ih (i + 1) c3 (by omega) hC3 FK4 (show (i + 1) ≤ n_ + 1 by omega) (show (n_ + 1 - (i + 1)).toNat < m by omega)
set_option maxRecDepth 100000 in
set_option maxHeartbeats 4000000 in
theorem g_setRun21 {g : Nat → Int} {Zi : Nat → Option (Nat × (Nat → Int))} {d n q : Nat} {D : Nat → Nat × Nat} {s : Nat → Int} {p : Nat → Nat} {c : Nat → Nat → Int} (hd : 0 ≤ d) (hz : zk Zi) (hq : q + 0 ≤ 400000) (hD : wd n p) (hS : bS s) (hC : bC D c) (hW : wp q g n D p s) (x : Int) (n_ : Int) (b_x : 0 ≤ x ∧ x ≤ 64) (b_n_ : 0 ≤ n_ ∧ n_ ≤ 64) (hp0 : x + n_ ≤ 65) : tt Zi d 63 (0, [some (.inr (.inl 21)), some (.inl x), some (.inl n_), none], [], n, D, s, p, c) (fun R H => ∃ (c' : Nat → Nat → Int), R = .inl none ∧ H = (n, D, s, p, c') ∧ bC D c' ∧ fk p c n p c' [2104]) := by
  refine tt_k 2 (S' := (2, [some (.inr (.inl 21)), some (.inl x), some (.inl n_), some (.inl 1)], [], n, D, s, p, c)) rfl ?_
  refine g_setRun21_L2 (Zi := Zi) (q := q) (n := n) (D := D) (s := s) (p := p) (c := c) hd hz (by omega) hD hS hC hW  x n_ (by omega) (by omega) (show x + n_ ≤ 65 by omega)  ?_ _ 1 c (by omega) hC (fk_rf hD) (show 1 ≤ n_ + 1 by omega) (Nat.lt_succ_self _)
  intro x1 c2 b3 hC2 kf4 i5 hx6
  show tt Zi d 63 (25, [some (.inr (.inl 21)), some (.inl x), some (.inl n_), some (.inl x1)], [], n, D, s, p, c2) _
  have FK7 : fk p c n p c2 [2104] := fk_tr (fk_rf hD) kf4 (by decide)
  replace i5 : x1 ≤ n_ + 1 := i5
  exact tt_rtv rfl rfl ⟨c2, rfl, rfl, hC2, FK7⟩
set_option maxRecDepth 100000 in
set_option maxHeartbeats 4000000 in
theorem g_takeSample21 {g : Nat → Int} {Zi : Nat → Option (Nat × (Nat → Int))} {d n q : Nat} {D : Nat → Nat × Nat} {s : Nat → Int} {p : Nat → Nat} {c : Nat → Nat → Int} (hd : 2 ≤ d) (hz : zk Zi) (hq : q + 4 ≤ 400000) (hD : wd n p) (hS : bS s) (hC : bC D c) (hW : wp q g n D p s) (x : Int) (e : Int) (b_x : 0 ≤ x ∧ x ≤ 63) (b_e : -300000 ≤ e ∧ e ≤ 300000) : tt Zi d 50 (0, [some (.inr (.inl 21)), some (.inl x), some (.inl e)], [], n, D, s, p, c) (fun R H => ∃ (c' : Nat → Nat → Int), R = .inl none ∧ H = (n, D, s, p, c') ∧ bC D c' ∧ fk p c n p c' [901, 2104]) := by
  refine tt_k 11 (S' := (19, [some (.inr (.inl 21)), some (.inl x), some (.inl e)], [.inl (s 2115), .inl (s 2114), .inr (.inl 8), .inl (x + 1), .inr (.inl (p 2104))], n, D, s, p, c)) rfl ?_
  have b1 : 0 ≤ (s 2115) ∧ (s 2115) ≤ 1 := hS 2115
  have K3 : ∀ (j2 : Int) , (-300000 ≤ j2 ∧ j2 ≤ 300000) → (((s 2115) = 0 ∧ j2 = e) ∨ ((s 2115) ≠ 0 ∧ j2 = (-e))) → tt Zi d 50 (28, [some (.inr (.inl 21)), some (.inl x), some (.inl e)], [.inl j2, .inl (s 2114), .inr (.inl 8), .inl (x + 1), .inr (.inl (p 2104))], n, D, s, p, c) (fun R H => ∃ (c' : Nat → Nat → Int), R = .inl none ∧ H = (n, D, s, p, c') ∧ bC D c' ∧ fk p c n p c' [901, 2104]) := by
    intro j2 b5 hj4
    have b6 : 0 ≤ (s 2114) ∧ (s 2114) ≤ 65535 := hS 2114
    refine tt_cl (by omega) rfl (g_rebuilt (Zi := Zi) (q := q) (n := n) (D := D) (s := s) (p := p) (c := c) (by omega) hz (by omega) hD hS hC hW (s 2114) j2 (by omega) (by omega)) ?_
    rintro _ _ ⟨r7, rfl, rfl, b8⟩
    show tt Zi d 50 (31, [some (.inr (.inl 21)), some (.inl x), some (.inl e)], [.inl r7, .inl (x + 1), .inr (.inl (p 2104))], n, D, s, p, c) _
    refine tt_isb (i := (x + 1)) (m := 66) (lo := 0) (hi := 65535) (x := r7) rfl ((sw_arr (hW).a21 rfl rfl).2) (by omega) hC ((sw_21 (hW).a21).2) (by omega) ?_
    intro c9 hC9 ec9
    show tt Zi d 50 (32, [some (.inr (.inl 21)), some (.inl x), some (.inl e)], [], n, D, s, p, c9) _
    have FK10 : fk p c n p c9 [901, 2104] := fk_st (k := 2104) (fk_rf hD) ec9 (by decide) rfl
    refine tt_k 7 (S' := (45, [some (.inr (.inl 21)), some (.inl x), some (.inl e)], [.inr (.inl 8), .inl e, .inl (s 2111), .inr (.inl 9)], n, D, s, p, c9)) rfl ?_
    have b11 : 0 ≤ (s 2111) ∧ (s 2111) ≤ 366 := hS 2111
    refine tt_cl (by omega) rfl (g_learnSample (Zi := Zi) (q := q) (n := n) (D := D) (s := s) (p := p) (c := c9) (by omega) hz (by omega) FK10.1 hS hC9 hW (s 2111) e (by omega) (by omega)) ?_
    rintro _ _ ⟨c12, rfl, rfl, hC12, kf13⟩
    have FK14 : fk p c n p c12 [901, 2104] := fk_tr FK10 kf13 (by decide)
    show tt Zi d 50 (48, [some (.inr (.inl 21)), some (.inl x), some (.inl e)], [], n, D, s, p, c12) _
    exact tt_rtv rfl rfl ⟨c12, rfl, rfl, hC12, FK14⟩
  refine tz_eq (x := (s 2115)) rfl rfl (by omega) (fun h15 => ?_) (fun h15 => ?_)
  · show tt Zi d 50 (27, [some (.inr (.inl 21)), some (.inl x), some (.inl e)], [.inl (s 2114), .inr (.inl 8), .inl (x + 1), .inr (.inl (p 2104))], n, D, s, p, c) _
    refine tt_k 1 (S' := (28, [some (.inr (.inl 21)), some (.inl x), some (.inl e)], [.inl e, .inl (s 2114), .inr (.inl 8), .inl (x + 1), .inr (.inl (p 2104))], n, D, s, p, c)) rfl ?_
    exact K3 e  (by omega) (Or.inl ⟨h15, rfl⟩)
  · show tt Zi d 50 (22, [some (.inr (.inl 21)), some (.inl x), some (.inl e)], [.inl (s 2114), .inr (.inl 8), .inl (x + 1), .inr (.inl (p 2104))], n, D, s, p, c) _
    refine tt_k 3 (S' := (28, [some (.inr (.inl 21)), some (.inl x), some (.inl e)], [.inl (-e), .inl (s 2114), .inr (.inl 8), .inl (x + 1), .inr (.inl (p 2104))], n, D, s, p, c)) rfl ?_
    exact K3 (-e)  (by omega) (Or.inr (⟨h15, rfl⟩))
set_option maxRecDepth 100000 in
set_option maxHeartbeats 4000000 in
theorem g_takeStop21 {g : Nat → Int} {Zi : Nat → Option (Nat × (Nat → Int))} {d n q : Nat} {D : Nat → Nat × Nat} {s : Nat → Int} {p : Nat → Nat} {c : Nat → Nat → Int} (hd : 2 ≤ d) (hz : zk Zi) (hq : q + 4 ≤ 400000) (hD : wd n p) (hS : bS s) (hC : bC D c) (hW : wp q g n D p s) (x : Int) (e : Int) (nu : Int) (b_x : 0 ≤ x ∧ x ≤ 63) (b_e : -300000 ≤ e ∧ e ≤ 300000) (b_nu : -2147483648 ≤ nu ∧ nu ≤ 2147483647) : tt Zi d 71 (0, [some (.inr (.inl 21)), some (.inl x), some (.inl e), some (.inl nu)], [], n, D, s, p, c) (fun R H => ∃ (s' : Nat → Int) (c' : Nat → Nat → Int), R = .inl none ∧ H = (n, D, s', p, c') ∧ bS s' ∧ bC D c' ∧ wp q g n D p s' ∧ fr s s' [902] ∧ fk p c n p c' [901, 2104]) := by
  refine tt_k 11 (S' := (19, [some (.inr (.inl 21)), some (.inl x), some (.inl e), some (.inl nu)], [.inl (s 2115), .inl (s 2114), .inr (.inl 8), .inl (x + 1), .inr (.inl (p 2104))], n, D, s, p, c)) rfl ?_
  have b1 : 0 ≤ (s 2115) ∧ (s 2115) ≤ 1 := hS 2115
  have K3 : ∀ (j2 : Int) , (-300000 ≤ j2 ∧ j2 ≤ 300000) → (((s 2115) = 0 ∧ j2 = e) ∨ ((s 2115) ≠ 0 ∧ j2 = (-e))) → tt Zi d 71 (28, [some (.inr (.inl 21)), some (.inl x), some (.inl e), some (.inl nu)], [.inl j2, .inl (s 2114), .inr (.inl 8), .inl (x + 1), .inr (.inl (p 2104))], n, D, s, p, c) (fun R H => ∃ (s' : Nat → Int) (c' : Nat → Nat → Int), R = .inl none ∧ H = (n, D, s', p, c') ∧ bS s' ∧ bC D c' ∧ wp q g n D p s' ∧ fr s s' [902] ∧ fk p c n p c' [901, 2104]) := by
    intro j2 b5 hj4
    have b6 : 0 ≤ (s 2114) ∧ (s 2114) ≤ 65535 := hS 2114
    refine tt_cl (by omega) rfl (g_rebuilt (Zi := Zi) (q := q) (n := n) (D := D) (s := s) (p := p) (c := c) (by omega) hz (by omega) hD hS hC hW (s 2114) j2 (by omega) (by omega)) ?_
    rintro _ _ ⟨r7, rfl, rfl, b8⟩
    show tt Zi d 71 (31, [some (.inr (.inl 21)), some (.inl x), some (.inl e), some (.inl nu)], [.inl r7, .inl (x + 1), .inr (.inl (p 2104))], n, D, s, p, c) _
    refine tt_isb (i := (x + 1)) (m := 66) (lo := 0) (hi := 65535) (x := r7) rfl ((sw_arr (hW).a21 rfl rfl).2) (by omega) hC ((sw_21 (hW).a21).2) (by omega) ?_
    intro c9 hC9 ec9
    show tt Zi d 71 (32, [some (.inr (.inl 21)), some (.inl x), some (.inl e), some (.inl nu)], [], n, D, s, p, c9) _
    have FK10 : fk p c n p c9 [901, 2104] := fk_st (k := 2104) (fk_rf hD) ec9 (by decide) rfl
    refine tt_k 11 (S' := (49, [some (.inr (.inl 21)), some (.inl x), some (.inl e), some (.inl nu)], [.inl ((nu + 1) - (s 2112)), .inl e, .inl (s 2111), .inr (.inl 9)], n, D, s, p, c9)) rfl ?_
    have b12 : 0 ≤ (s 2112) ∧ (s 2112) ≤ 1 := hS 2112
    refine tt_wm (x := ((nu + 1) - (s 2112))) ?_
    intro v11 b13 w14
    show tt Zi d 71 (49, [some (.inr (.inl 21)), some (.inl x), some (.inl e), some (.inl nu)], [.inl v11, .inl e, .inl (s 2111), .inr (.inl 9)], n, D, s, p, c9) _
    refine tt_k 1 (S' := (50, [some (.inr (.inl 21)), some (.inl x), some (.inl e), some (.inl nu)], [.inl 2, .inl v11, .inl e, .inl (s 2111), .inr (.inl 9)], n, D, s, p, c9)) rfl ?_
    refine tt_div (x := v11) (y := 2) rfl (by omega) ?_
    show tt Zi d 71 (51, [some (.inr (.inl 21)), some (.inl x), some (.inl e), some (.inl nu)], [.inl (Int.tdiv v11 2), .inl e, .inl (s 2111), .inr (.inl 9)], n, D, s, p, c9) _
    have b15 := tdv_bd (x := v11) (y := 2) (a := 2147483648) (by omega) (by omega) (by omega)
    have b16 := tdh_bd (x := v11) (by omega)
    refine tt_k 3 (S' := (58, [some (.inr (.inl 21)), some (.inl x), some (.inl e), some (.inl nu)], [.inl (s 805), .inl (Int.tdiv v11 2), .inl e, .inl (s 2111), .inr (.inl 9)], n, D, s, p, c9)) rfl ?_
    have b17 : 0 ≤ (s 2111) ∧ (s 2111) ≤ 366 := hS 2111
    have b18 : 0 ≤ (s 805) ∧ (s 805) ≤ 65535 := hS 805
    refine tt_cl (by omega) rfl (g_learnStop (Zi := Zi) (q := q) (n := n) (D := D) (s := s) (p := p) (c := c9) (by omega) hz (by omega) FK10.1 hS hC9 hW (s 2111) e (Int.tdiv v11 2) (s 805) (by omega) (by omega) (by omega) (by omega)) ?_
    rintro _ _ ⟨c19, rfl, rfl, hC19, kf20⟩
    have FK21 : fk p c n p c19 [901, 2104] := fk_tr FK10 kf20 (by decide)
    show tt Zi d 71 (61, [some (.inr (.inl 21)), some (.inl x), some (.inl e), some (.inl nu)], [], n, D, s, p, c19) _
    refine tt_k 2 (S' := (65, [some (.inr (.inl 21)), some (.inl x), some (.inl e), some (.inl nu)], [.inr (.inl 9)], n, D, s, p, c19)) rfl ?_
    refine tt_cl (by omega) rfl (g_slacken (Zi := Zi) (q := q) (n := n) (D := D) (s := s) (p := p) (c := c19) (by omega) hz (by omega) FK21.1 hS hC19 hW ) ?_
    rintro _ _ ⟨s22, rfl, rfl, hS22, hW23, f24⟩
    show tt Zi d 71 (68, [some (.inr (.inl 21)), some (.inl x), some (.inl e), some (.inl nu)], [], n, D, s22, p, c19) _
    exact tt_rtv rfl rfl ⟨s22, c19, rfl, rfl, hS22, hC19, hW23, (fr_tr fr_rf f24 (by decide)), FK21⟩
  refine tz_eq (x := (s 2115)) rfl rfl (by omega) (fun h25 => ?_) (fun h25 => ?_)
  · show tt Zi d 71 (27, [some (.inr (.inl 21)), some (.inl x), some (.inl e), some (.inl nu)], [.inl (s 2114), .inr (.inl 8), .inl (x + 1), .inr (.inl (p 2104))], n, D, s, p, c) _
    refine tt_k 1 (S' := (28, [some (.inr (.inl 21)), some (.inl x), some (.inl e), some (.inl nu)], [.inl e, .inl (s 2114), .inr (.inl 8), .inl (x + 1), .inr (.inl (p 2104))], n, D, s, p, c)) rfl ?_
    exact K3 e  (by omega) (Or.inl ⟨h25, rfl⟩)
  · show tt Zi d 71 (22, [some (.inr (.inl 21)), some (.inl x), some (.inl e), some (.inl nu)], [.inl (s 2114), .inr (.inl 8), .inl (x + 1), .inr (.inl (p 2104))], n, D, s, p, c) _
    refine tt_k 3 (S' := (28, [some (.inr (.inl 21)), some (.inl x), some (.inl e), some (.inl nu)], [.inl (-e), .inl (s 2114), .inr (.inl 8), .inl (x + 1), .inr (.inl (p 2104))], n, D, s, p, c)) rfl ?_
    exact K3 (-e)  (by omega) (Or.inr (⟨h25, rfl⟩))
set_option maxRecDepth 100000 in
set_option maxHeartbeats 4000000 in
theorem g_closeRow12 {g : Nat → Int} {Zi : Nat → Option (Nat × (Nat → Int))} {d n q : Nat} {D : Nat → Nat × Nat} {s : Nat → Int} {p : Nat → Nat} {c : Nat → Nat → Int} (hd : 0 ≤ d) (hz : zk Zi) (hq : q + 0 ≤ 400000) (hD : wd n p) (hS : bS s) (hC : bC D c) (hW : wp q g n D p s)  : tt Zi d 75 (0, [some (.inr (.inl 12))], [], n, D, s, p, c) (fun R H => R = .inl none ∧ H = (n, D, s, p, c)) := by
  exact tt_rtv rfl rfl ⟨rfl, rfl⟩
set_option maxRecDepth 100000 in
set_option maxHeartbeats 4000000 in
theorem g_checkError {g : Nat → Int} {Zi : Nat → Option (Nat × (Nat → Int))} {d n q : Nat} {D : Nat → Nat × Nat} {s : Nat → Int} {p : Nat → Nat} {c : Nat → Nat → Int} (hd : 4 ≤ d) (hz : zk Zi) (hq : q + 8 ≤ 400000) (hD : wd n p) (hS : bS s) (hC : bC D c) (hW : wp q g n D p s) (e : Int) (b_e : -2147483648 ≤ e ∧ e ≤ 2147483647) : tt Zi d 59 (0, [some (.inr (.inl 21)), some (.inl e)], [], n, D, s, p, c) (fun R H => (R = .inl none ∧ H = (n, D, s, p, c) ∧ (-65536 ≤ e ∧ e ≤ 65536)) ∨ (R = .inr 12 ∧ cX ((q + 1)) g s p c [] LXR H)) := by
  refine tt_k 3 (S' := (5, [some (.inr (.inl 21)), some (.inl e)], [.inl e, .inr (.inl 8)], n, D, s, p, c)) rfl ?_
  refine tt_cl (by omega) rfl (g_isError (Zi := Zi) (q := q) (n := n) (D := D) (s := s) (p := p) (c := c) (by omega) hz (by omega) hD hS hC hW e (by omega)) ?_
  rintro _ _ ⟨r1, rfl, rfl, b2, k3⟩
  show tt Zi d 59 (8, [some (.inr (.inl 21)), some (.inl e)], [.inl r1], n, D, s, p, c) _
  replace k3 : r1 = 1 → -65536 ≤ e ∧ e ≤ 65536 := k3
  refine tz_ne (x := r1) rfl rfl (by omega) (fun h4 => ?_) (fun h4 => ?_)
  · show tt Zi d 59 (27, [some (.inr (.inl 21)), some (.inl e)], [], n, D, s, p, c) _
    exact tt_rtv rfl rfl (Or.inl ⟨rfl, rfl, by show -65536 ≤ e ∧ e ≤ 65536; omega⟩)
  · show tt Zi d 59 (11, [some (.inr (.inl 21)), some (.inl e)], [], n, D, s, p, c) _
    refine tt_k 6 (S' := (24, [some (.inr (.inl 21)), some (.inl e)], [.inl (s 2004), .inl 7, .inr (.inl 20)], n, D, s, p, c)) rfl ?_
    have b5 : -1 ≤ (s 2004) ∧ (s 2004) ≤ 100000 := hS 2004
    refine tt_cl (by omega) rfl (g_refuse (Zi := Zi) (q := q) (n := n) (D := D) (s := s) (p := p) (c := c) (by omega) hz (by omega) hD hS hC hW 7 (s 2004) (by omega) (by omega)) ?_
    rintro _ H1 (hF | ⟨rfl, hY6⟩)
    · exact hF.elim
    · exact tt_ax rfl (Or.inr ⟨rfl, cX_mono (cX_trx (fk_rf hD) (show fr s s LXR from fr_rf) hY6 (by decide)) (by omega)⟩)
set_option maxRecDepth 100000 in
set_option maxHeartbeats 4000000 in
theorem g_tellRun21_L9 {g : Nat → Int} {Zi : Nat → Option (Nat × (Nat → Int))} {d n q : Nat} {D : Nat → Nat × Nat} {s : Nat → Int} {p : Nat → Nat} {c : Nat → Nat → Int}  {Q : mi_Rs → mi_H → Prop} (hd : 6 ≤ d) (hz : zk Zi) (hq : q + 12 ≤ 400001) (hD : wd n p) (hS : bS s) (hC : bC D c) (hW : wp q g n D p s) (x : Int) (ro : Int) (b_x : 0 ≤ x ∧ x ≤ 63) (b_ro : 1 ≤ ro ∧ ro ≤ 64) (hX12 : ∀ H, cX (q + 1) g s p c [2104] LXR H → Q (.inr 12) H)
  (hK : ∀ (n_ : Int) (o_4 : Option mi_V) (s0 : Nat → Int) (b_n_ : 0 ≤ n_ ∧ n_ ≤ 64) (hS0 : bS s0) (hF0 : fr s s0 [902, 2001, 2002, 2003]) (hW0 : wp q g n D p s0) (i0 : n_ ≤ ro) (i1 : s 2001 ≤ 32768 → s0 2001 ≤ 32768), (True) → tt Zi d 66 (66, [some (.inr (.inl 21)), some (.inl x), some (.inl ro), some (.inl n_), o_4], [], n, D, s0, p, c) Q) :
  ∀ (m : Nat) (n_ : Int) (o_4 : Option mi_V) (s0 : Nat → Int) (b_n_ : 0 ≤ n_ ∧ n_ ≤ 64) (hS0 : bS s0) (hF0 : fr s s0 [902, 2001, 2002, 2003]) (hW0 : wp q g n D p s0) (i0 : n_ ≤ ro) (i1 : s 2001 ≤ 32768 → s0 2001 ≤ 32768), (ro - n_).toNat < m → tt Zi d 66 (9, [some (.inr (.inl 21)), some (.inl x), some (.inl ro), some (.inl n_), o_4], [], n, D, s0, p, c) Q := by
  intro m
  induction m with
  | zero => intro n_ o_4 s0 b_n_ hS0 hF0 hW0 i0 i1 hm; exact absurd hm (by omega)
  | succ m ih =>
    intro n_ o_4 s0 b_n_ hS0 hF0 hW0 i0 i1 hm
    have e1 : s0 2106 = s 2106 := hF0 2106 (by decide)
    have b2 : 0 ≤ (s0 2106) ∧ (s0 2106) ≤ 64 := hS0 2106
    have b3 : 0 ≤ (s 2106) ∧ (s 2106) ≤ 64 := hS 2106
    refine tt_k 2 (S' := (11, [some (.inr (.inl 21)), some (.inl x), some (.inl ro), some (.inl n_), o_4], [.inl ro, .inl n_], n, D, s0, p, c)) rfl ?_
    refine tb_ge (x := n_) (y := ro) rfl rfl (by omega) (fun h4 => ?_) (fun h4 => ?_)
    · show tt Zi d 66 (66, [some (.inr (.inl 21)), some (.inl x), some (.inl ro), some (.inl n_), o_4], [], n, D, s0, p, c) _
      exact hK n_ (o_4) s0 (by omega) hS0 hF0 hW0 (show n_ ≤ ro by omega) (show s 2001 ≤ 32768 → (s0 2001) ≤ 32768 by omega) trivial
    · show tt Zi d 66 (14, [some (.inr (.inl 21)), some (.inl x), some (.inl ro), some (.inl n_), o_4], [], n, D, s0, p, c) _
      refine tt_k 3 (S' := (19, [some (.inr (.inl 21)), some (.inl x), some (.inl ro), some (.inl n_), o_4], [.inl 1, .inr (.inl 20)], n, D, s0, p, c)) rfl ?_
      refine tt_cl (by omega) rfl (g_readBits (Zi := Zi) (q := q) (n := n) (D := D) (s := s0) (p := p) (c := c) (by omega) hz (by omega) hD hS0 hC hW0 1 (by omega)) ?_
      rintro _ H1 (⟨s5, r6, rfl, rfl, hS5, hW7, f8, b9, k10, k11⟩ | ⟨rfl, hY12⟩)
      rotate_left
      · exact tt_ax rfl (hX12 _ (cX_mono (cX_trx (fk_rf hD) (fr_wk (show fr s s0 [902, 2001, 2002, 2003] from hF0) (by decide)) hY12 (by decide)) (by omega)))
      show tt Zi d 66 (22, [some (.inr (.inl 21)), some (.inl x), some (.inl ro), some (.inl n_), o_4], [.inl r6], n, D, s5, p, c) _
      replace k10 : (s0 2001) ≤ 32768 → (s5 2001) ≤ 32768 := k10
      replace k11 : r6 < 2 ^ (1 : Int).toNat := k11
      have b13 : 0 ≤ (s0 2001) ∧ (s0 2001) ≤ 100000 := hS0 2001
      have b14 : 0 ≤ (s5 2001) ∧ (s5 2001) ≤ 100000 := hS5 2001
      have e15 : s5 2106 = (s0 2106) := (f8 2106 (by decide))
      have b16 : 0 ≤ (s5 2106) ∧ (s5 2106) ≤ 64 := hS5 2106
      refine tt_k 1 (S' := (23, [some (.inr (.inl 21)), some (.inl x), some (.inl ro), some (.inl n_), o_4], [.inl 1, .inl r6], n, D, s5, p, c)) rfl ?_
      refine tb_ne (x := r6) (y := 1) rfl rfl (by omega) (fun h17 => ?_) (fun h17 => ?_)
      · show tt Zi d 66 (66, [some (.inr (.inl 21)), some (.inl x), some (.inl ro), some (.inl n_), o_4], [], n, D, s5, p, c) _
        exact hK n_ (o_4) s5 (by omega) hS5 (fr_tr hF0 f8 (by decide)) hW7 (show n_ ≤ ro by omega) (show s 2001 ≤ 32768 → (s5 2001) ≤ 32768 by omega) trivial
      · show tt Zi d 66 (26, [some (.inr (.inl 21)), some (.inl x), some (.inl ro), some (.inl n_), o_4], [], n, D, s5, p, c) _
        refine tt_k 3 (S' := (31, [some (.inr (.inl 21)), some (.inl x), some (.inl ro), some (.inl n_), o_4], [.inr (.inl 9), .inl 1], n, D, s5, p, c)) rfl ?_
        refine tt_cl (by omega) rfl (g_runBits (Zi := Zi) (q := q) (n := n) (D := D) (s := s5) (p := p) (c := c) (by omega) hz (by omega) hD hS5 hC hW7 ) ?_
        rintro _ _ ⟨r18, rfl, rfl, b19⟩
        show tt Zi d 66 (34, [some (.inr (.inl 21)), some (.inl x), some (.inl ro), some (.inl n_), o_4], [.inl r18, .inl 1], n, D, s5, p, c) _
        refine tt_k 6 (S' := (42, [some (.inr (.inl 21)), some (.inl x), some (.inl ro), some (.inl n_), some (.inl (mi_shl 1 r18))], [.inl (ro - n_), .inl (mi_shl 1 r18)], n, D, s5, p, c)) rfl ?_
        have e20 : 1 ≤ (mi_shl 1 r18) ∧ (mi_shl 1 r18) ≤ 32768 := mi_shl1b 0 15 (by omega) (by omega) (by decide)
        refine tb_gt (x := (mi_shl 1 r18)) (y := (ro - n_)) rfl rfl (by omega) (fun h21 => ?_) (fun h21 => ?_)
        · show tt Zi d 66 (52, [some (.inr (.inl 21)), some (.inl x), some (.inl ro), some (.inl n_), some (.inl (mi_shl 1 r18))], [], n, D, s5, p, c) _
          refine tt_k 5 (S' := (58, [some (.inr (.inl 21)), some (.inl x), some (.inl ro), some (.inl n_), some (.inl (mi_shl 1 r18))], [.inl (ro - n_), .inl (mi_shl 1 r18), .inl n_], n, D, s5, p, c)) rfl ?_
          refine tt_min (k := 0) (x := (mi_shl 1 r18)) (y := (ro - n_)) rfl rfl (Nat.le_of_ble_eq_true rfl) (by omega) ?_
          refine tt_k 3 (S' := (9, [some (.inr (.inl 21)), some (.inl x), some (.inl ro), some (.inl ((n_ + (min (mi_shl 1 r18) (ro - n_))))), some (.inl (mi_shl 1 r18))], [], n, D, s5, p, c)) rfl ?_
          exact ih ((n_ + (min (mi_shl 1 r18) (ro - n_)))) (some (.inl (mi_shl 1 r18))) s5 (by omega) hS5 (fr_tr hF0 f8 (by decide)) hW7 (show ((n_ + (min (mi_shl 1 r18) (ro - n_)))) ≤ ro by omega) (show s 2001 ≤ 32768 → (s5 2001) ≤ 32768 by omega) (show (ro - ((n_ + (min (mi_shl 1 r18) (ro - n_))))).toNat < m by omega)
        · show tt Zi d 66 (45, [some (.inr (.inl 21)), some (.inl x), some (.inl ro), some (.inl n_), some (.inl (mi_shl 1 r18))], [], n, D, s5, p, c) _
          refine tt_k 2 (S' := (49, [some (.inr (.inl 21)), some (.inl x), some (.inl ro), some (.inl n_), some (.inl (mi_shl 1 r18))], [.inr (.inl 9)], n, D, s5, p, c)) rfl ?_
          refine tt_cl (by omega) rfl (g_quicken (Zi := Zi) (q := q) (n := n) (D := D) (s := s5) (p := p) (c := c) (by omega) hz (by omega) hD hS5 hC hW7 ) ?_
          rintro _ _ ⟨s22, rfl, rfl, hS22, hW23, f24⟩
          show tt Zi d 66 (52, [some (.inr (.inl 21)), some (.inl x), some (.inl ro), some (.inl n_), some (.inl (mi_shl 1 r18))], [], n, D, s22, p, c) _
          have e25 : s22 2001 = (s5 2001) := (f24 2001 (by decide))
          have b26 : 0 ≤ (s22 2001) ∧ (s22 2001) ≤ 100000 := hS22 2001
          have e27 : s22 2106 = (s5 2106) := (f24 2106 (by decide))
          have b28 : 0 ≤ (s22 2106) ∧ (s22 2106) ≤ 64 := hS22 2106
          refine tt_k 5 (S' := (58, [some (.inr (.inl 21)), some (.inl x), some (.inl ro), some (.inl n_), some (.inl (mi_shl 1 r18))], [.inl (ro - n_), .inl (mi_shl 1 r18), .inl n_], n, D, s22, p, c)) rfl ?_
          refine tt_min (k := 0) (x := (mi_shl 1 r18)) (y := (ro - n_)) rfl rfl (Nat.le_of_ble_eq_true rfl) (by omega) ?_
          refine tt_k 3 (S' := (9, [some (.inr (.inl 21)), some (.inl x), some (.inl ro), some (.inl ((n_ + (min (mi_shl 1 r18) (ro - n_))))), some (.inl (mi_shl 1 r18))], [], n, D, s22, p, c)) rfl ?_
          exact ih ((n_ + (min (mi_shl 1 r18) (ro - n_)))) (some (.inl (mi_shl 1 r18))) s22 (by omega) hS22 (fr_tr (fr_tr hF0 f8 (by decide)) f24 (by decide)) hW23 (show ((n_ + (min (mi_shl 1 r18) (ro - n_)))) ≤ ro by omega) (show s 2001 ≤ 32768 → (s22 2001) ≤ 32768 by omega) (show (ro - ((n_ + (min (mi_shl 1 r18) (ro - n_))))).toNat < m by omega)
set_option maxRecDepth 100000 in
set_option maxHeartbeats 4000000 in
theorem g_tellRun21 {g : Nat → Int} {Zi : Nat → Option (Nat × (Nat → Int))} {d n q : Nat} {D : Nat → Nat × Nat} {s : Nat → Int} {p : Nat → Nat} {c : Nat → Nat → Int} (hd : 6 ≤ d) (hz : zk Zi) (hq : q + 12 ≤ 400000) (hD : wd n p) (hS : bS s) (hC : bC D c) (hW : wp q g n D p s) (x : Int) (b_x : 0 ≤ x ∧ x ≤ 63) (hp0 : x < s 2106) : tt Zi d 66 (0, [some (.inr (.inl 21)), some (.inl x), none, none, none], [], n, D, s, p, c) (fun R H => (∃ (s' : Nat → Int) (c' : Nat → Nat → Int) (r : Int), R = .inl (some (.inl r)) ∧ H = (n, D, s', p, c') ∧ bS s' ∧ bC D c' ∧ wp q g n D p s' ∧ fr s s' [902, 2001, 2002, 2003] ∧ fk p c n p c' [2104] ∧ (0 ≤ r ∧ r ≤ 64) ∧ (x + r ≤ s 2106) ∧ (s 2001 ≤ 32768 → s' 2001 ≤ 32768)) ∨ (R = .inr 12 ∧ cX ((q + 1)) g s p c [2104] LXR H)) := by
  have b1 : 0 ≤ (s 2106) ∧ (s 2106) ≤ 64 := hS 2106
  refine tt_k 7 (S' := (9, [some (.inr (.inl 21)), some (.inl x), some (.inl ((s 2106) - x)), some (.inl 0), none], [], n, D, s, p, c)) rfl ?_
  refine g_tellRun21_L9 (Zi := Zi) (q := q) (n := n) (D := D) (s := s) (p := p) (c := c) hd hz (by omega) hD hS hC hW  x ((s 2106) - x) (by omega) (by omega)  (fun H h => (Or.inr ⟨rfl, cX_mono (cX_trx (fk_rf hD) (show fr s s LXR from fr_rf) h (by decide)) (by omega)⟩)) ?_ _ 0 (none) s (by omega) hS fr_rf hW (show 0 ≤ ((s 2106) - x) by omega) (fun h => h) (Nat.lt_succ_self _)
  intro x2 x3 s4 b5 hS4 f6 hW7 i8 i9 hx10
  show tt Zi d 66 (66, [some (.inr (.inl 21)), some (.inl x), some (.inl ((s 2106) - x)), some (.inl x2), x3], [], n, D, s4, p, c) _
  replace i8 : x2 ≤ ((s 2106) - x) := i8
  replace i9 : (s 2001) ≤ 32768 → (s4 2001) ≤ 32768 := i9
  have b11 : 0 ≤ (s4 2001) ∧ (s4 2001) ≤ 100000 := hS4 2001
  have e12 : s4 2106 = (s 2106) := (f6 2106 (by decide))
  have b13 : 0 ≤ (s4 2106) ∧ (s4 2106) ≤ 64 := hS4 2106
  refine tt_k 2 (S' := (68, [some (.inr (.inl 21)), some (.inl x), some (.inl ((s 2106) - x)), some (.inl x2), x3], [.inl ((s 2106) - x), .inl x2], n, D, s4, p, c)) rfl ?_
  refine tb_ge (x := x2) (y := ((s 2106) - x)) rfl rfl (by omega) (fun h14 => ?_) (fun h14 => ?_)
  · show tt Zi d 66 (113, [some (.inr (.inl 21)), some (.inl x), some (.inl ((s 2106) - x)), some (.inl x2), x3], [], n, D, s4, p, c) _
    refine tt_k 3 (S' := (116, [some (.inr (.inl 21)), some (.inl x), some (.inl ((s 2106) - x)), some (.inl x2), x3], [.inl x2, .inl x, .inr (.inl 21)], n, D, s4, p, c)) rfl ?_
    refine tt_cl (by omega) rfl (g_setRun21 (Zi := Zi) (q := q) (n := n) (D := D) (s := s4) (p := p) (c := c) (by omega) hz (by omega) hD hS4 hC hW7 x x2 (by omega) (by omega) (show x + x2 ≤ 65 by omega)) ?_
    rintro _ _ ⟨c15, rfl, rfl, hC15, kf16⟩
    have FK17 : fk p c n p c15 [2104] := fk_tr (fk_rf hD) kf16 (by decide)
    show tt Zi d 66 (119, [some (.inr (.inl 21)), some (.inl x), some (.inl ((s 2106) - x)), some (.inl x2), x3], [], n, D, s4, p, c15) _
    refine tt_k 1 (S' := (120, [some (.inr (.inl 21)), some (.inl x), some (.inl ((s 2106) - x)), some (.inl x2), x3], [.inl x2], n, D, s4, p, c15)) rfl ?_
    exact tt_rti rfl rfl (Or.inl ⟨s4, c15, x2, rfl, rfl, hS4, hC15, hW7, (fr_tr fr_rf f6 (by decide)), FK17, by omega, by show x + x2 ≤ s 2106; omega, by show s 2001 ≤ 32768 → (s4 2001) ≤ 32768; omega⟩)
  · show tt Zi d 66 (71, [some (.inr (.inl 21)), some (.inl x), some (.inl ((s 2106) - x)), some (.inl x2), x3], [], n, D, s4, p, c) _
    refine tt_k 2 (S' := (75, [some (.inr (.inl 21)), some (.inl x), some (.inl ((s 2106) - x)), some (.inl x2), x3], [.inr (.inl 20)], n, D, s4, p, c)) rfl ?_
    refine tt_cl (by omega) rfl (g_openPlace (Zi := Zi) (q := q) (n := n) (D := D) (s := s4) (p := p) (c := c) (by omega) hz (by omega) hD hS4 hC hW7 ) ?_
    rintro _ _ ⟨r18, rfl, rfl, b19, k20⟩
    show tt Zi d 66 (78, [some (.inr (.inl 21)), some (.inl x), some (.inl ((s 2106) - x)), some (.inl x2), x3], [.inl r18], n, D, s4, p, c) _
    replace k20 : r18 = (s4 2001) - 1 := k20
    refine tt_k 6 (S' := (89, [some (.inr (.inl 21)), some (.inl x), some (.inl ((s 2106) - x)), some (.inl x2), some (.inl r18)], [.inr (.inl 9), .inr (.inl 20), .inl x2], n, D, s4, p, c)) rfl ?_
    refine tt_cl (by omega) rfl (g_runBits (Zi := Zi) (q := q) (n := n) (D := D) (s := s4) (p := p) (c := c) (by omega) hz (by omega) hD hS4 hC hW7 ) ?_
    rintro _ _ ⟨r21, rfl, rfl, b22⟩
    show tt Zi d 66 (92, [some (.inr (.inl 21)), some (.inl x), some (.inl ((s 2106) - x)), some (.inl x2), some (.inl r18)], [.inl r21, .inr (.inl 20), .inl x2], n, D, s4, p, c) _
    refine tt_cl (by omega) rfl (g_readBits (Zi := Zi) (q := q) (n := n) (D := D) (s := s4) (p := p) (c := c) (by omega) hz (by omega) hD hS4 hC hW7 r21 (by omega)) ?_
    rintro _ H1 (⟨s23, r24, rfl, rfl, hS23, hW25, f26, b27, k28, k29⟩ | ⟨rfl, hY30⟩)
    rotate_left
    · exact tt_ax rfl (Or.inr ⟨rfl, cX_mono (cX_trx (fk_rf hD) (show fr s s4 LXR from (fr_tr fr_rf f6 (by decide))) hY30 (by decide)) (by omega)⟩)
    show tt Zi d 66 (95, [some (.inr (.inl 21)), some (.inl x), some (.inl ((s 2106) - x)), some (.inl x2), some (.inl r18)], [.inl r24, .inl x2], n, D, s23, p, c) _
    replace k28 : (s4 2001) ≤ 32768 → (s23 2001) ≤ 32768 := k28
    replace k29 : r24 < 2 ^ (r21 : Int).toNat := k29
    have b31 : 0 ≤ (s23 2001) ∧ (s23 2001) ≤ 100000 := hS23 2001
    have e32 : s23 2106 = (s4 2106) := (f26 2106 (by decide))
    have b33 : 0 ≤ (s23 2106) ∧ (s23 2106) ≤ 64 := hS23 2106
    refine tt_k 4 (S' := (99, [some (.inr (.inl 21)), some (.inl x), some (.inl ((s 2106) - x)), some (.inl (x2 + r24)), some (.inl r18)], [.inl ((s 2106) - x), .inl (x2 + r24)], n, D, s23, p, c)) rfl ?_
    refine tb_lt (x := (x2 + r24)) (y := ((s 2106) - x)) rfl rfl (by omega) (fun h34 => ?_) (fun h34 => ?_)
    · show tt Zi d 66 (113, [some (.inr (.inl 21)), some (.inl x), some (.inl ((s 2106) - x)), some (.inl (x2 + r24)), some (.inl r18)], [], n, D, s23, p, c) _
      refine tt_k 3 (S' := (116, [some (.inr (.inl 21)), some (.inl x), some (.inl ((s 2106) - x)), some (.inl (x2 + r24)), some (.inl r18)], [.inl (x2 + r24), .inl x, .inr (.inl 21)], n, D, s23, p, c)) rfl ?_
      refine tt_cl (by omega) rfl (g_setRun21 (Zi := Zi) (q := q) (n := n) (D := D) (s := s23) (p := p) (c := c) (by omega) hz (by omega) hD hS23 hC hW25 x (x2 + r24) (by omega) (by omega) (show x + (x2 + r24) ≤ 65 by omega)) ?_
      rintro _ _ ⟨c35, rfl, rfl, hC35, kf36⟩
      have FK37 : fk p c n p c35 [2104] := fk_tr (fk_rf hD) kf36 (by decide)
      show tt Zi d 66 (119, [some (.inr (.inl 21)), some (.inl x), some (.inl ((s 2106) - x)), some (.inl (x2 + r24)), some (.inl r18)], [], n, D, s23, p, c35) _
      refine tt_k 1 (S' := (120, [some (.inr (.inl 21)), some (.inl x), some (.inl ((s 2106) - x)), some (.inl (x2 + r24)), some (.inl r18)], [.inl (x2 + r24)], n, D, s23, p, c35)) rfl ?_
      exact tt_rti rfl rfl (Or.inl ⟨s23, c35, (x2 + r24), rfl, rfl, hS23, hC35, hW25, (fr_tr (fr_tr fr_rf f6 (by decide)) f26 (by decide)), FK37, by omega, by show x + (x2 + r24) ≤ s 2106; omega, by show s 2001 ≤ 32768 → (s23 2001) ≤ 32768; omega⟩)
    · show tt Zi d 66 (102, [some (.inr (.inl 21)), some (.inl x), some (.inl ((s 2106) - x)), some (.inl (x2 + r24)), some (.inl r18)], [], n, D, s23, p, c) _
      refine tt_k 4 (S' := (110, [some (.inr (.inl 21)), some (.inl x), some (.inl ((s 2106) - x)), some (.inl (x2 + r24)), some (.inl r18)], [.inl r18, .inl 7, .inr (.inl 20)], n, D, s23, p, c)) rfl ?_
      refine tt_cl (by omega) rfl (g_refuse (Zi := Zi) (q := q) (n := n) (D := D) (s := s23) (p := p) (c := c) (by omega) hz (by omega) hD hS23 hC hW25 7 r18 (by omega) (by omega)) ?_
      rintro _ H1 (hF | ⟨rfl, hY38⟩)
      · exact hF.elim
      · exact tt_ax rfl (Or.inr ⟨rfl, cX_mono (cX_trx (fk_rf hD) (show fr s s23 LXR from (fr_tr (fr_tr fr_rf f6 (by decide)) f26 (by decide))) hY38 (by decide)) (by omega)⟩)
set_option maxRecDepth 100000 in
set_option maxHeartbeats 4000000 in
theorem g_tellSample21 {g : Nat → Int} {Zi : Nat → Option (Nat × (Nat → Int))} {d n q : Nat} {D : Nat → Nat × Nat} {s : Nat → Int} {p : Nat → Nat} {c : Nat → Nat → Int} (hd : 7 ≤ d) (hz : zk Zi) (hq : q + 14 ≤ 400000) (hD : wd n p) (hS : bS s) (hC : bC D c) (hW : wp q g n D p s) (x : Int) (b_x : 0 ≤ x ∧ x ≤ 63) : tt Zi d 55 (0, [some (.inr (.inl 21)), some (.inl x), none, none, none], [], n, D, s, p, c) (fun R H => (∃ (s' : Nat → Int) (c' : Nat → Nat → Int), R = .inl none ∧ H = (n, D, s', p, c') ∧ bS s' ∧ bC D c' ∧ wp q g n D p s' ∧ fr s s' [2001, 2002, 2003, 2004] ∧ fk p c n p c' [901, 2104] ∧ (s 2001 ≤ 32768 → s' 2001 ≤ 32768)) ∨ (R = .inr 12 ∧ cX ((q + 1)) g s p c [901, 2104] LXR H)) := by
  refine tt_k 14 (S' := (26, [some (.inr (.inl 21)), some (.inl x), none, none, none], [.inr (.inl 21), .inl ((((s 809) - (s 808)) - 1)), .inl (s 2113), .inr (.inl 20)], n, D, s, p, c)) rfl ?_
  refine tt_k 2 (S' := (32, [some (.inr (.inl 21)), some (.inl x), none, none, none], [.inl (s 808), .inl ((((s 809) - (s 808)) - 1)), .inl (s 2113), .inr (.inl 20)], n, D, s, p, c)) rfl ?_
  have b1 : 0 ≤ (s 2113) ∧ (s 2113) ≤ 30 := hS 2113
  have b2 : 0 ≤ (s 809) ∧ (s 809) ≤ 64 := hS 809
  have b3 : 0 ≤ (s 808) ∧ (s 808) ≤ 30 := hS 808
  refine tt_cl (by omega) rfl (g_readNumber (Zi := Zi) (q := q) (n := n) (D := D) (s := s) (p := p) (c := c) (by omega) hz (by omega) hD hS hC hW (s 2113) ((((s 809) - (s 808)) - 1)) (s 808) (by omega) (by omega) (by omega)) ?_
  rintro _ H1 (⟨s4, r5, rfl, rfl, hS4, hW6, f7, b8, k9⟩ | ⟨rfl, hY10⟩)
  rotate_left
  · exact tt_ax rfl (Or.inr ⟨rfl, cX_mono (cX_trx (fk_rf hD) (show fr s s LXR from fr_rf) hY10 (by decide)) (by omega)⟩)
  show tt Zi d 55 (35, [some (.inr (.inl 21)), some (.inl x), none, none, none], [.inl r5], n, D, s4, p, c) _
  replace k9 : (s 2001) ≤ 32768 → (s4 2001) ≤ 32768 := k9
  have b11 : 0 ≤ (s 2001) ∧ (s 2001) ≤ 100000 := hS 2001
  have b12 : 0 ≤ (s4 2001) ∧ (s4 2001) ≤ 100000 := hS4 2001
  refine tt_k 3 (S' := (38, [some (.inr (.inl 21)), some (.inl x), some (.inl r5), none, none], [.inl 2, .inl r5], n, D, s4, p, c)) rfl ?_
  refine tt_rmn (x := r5) (y := 2) rfl (by omega) ?_
  show tt Zi d 55 (39, [some (.inr (.inl 21)), some (.inl x), some (.inl r5), none, none], [.inl (Int.tmod r5 2)], n, D, s4, p, c) _
  have b13 := tm2_bd r5
  refine tt_k 1 (S' := (40, [some (.inr (.inl 21)), some (.inl x), some (.inl r5), none, none], [.inl 1, .inl (Int.tmod r5 2)], n, D, s4, p, c)) rfl ?_
  have K15 : ∀ (j14 : Int) , (0 ≤ j14 ∧ j14 ≤ 1) → (True) → tt Zi d 55 (48, [some (.inr (.inl 21)), some (.inl x), some (.inl r5), none, none], [.inl j14], n, D, s4, p, c) (fun R H => (∃ (s' : Nat → Int) (c' : Nat → Nat → Int), R = .inl none ∧ H = (n, D, s', p, c') ∧ bS s' ∧ bC D c' ∧ wp q g n D p s' ∧ fr s s' [2001, 2002, 2003, 2004] ∧ fk p c n p c' [901, 2104] ∧ (s 2001 ≤ 32768 → s' 2001 ≤ 32768)) ∨ (R = .inr 12 ∧ cX ((q + 1)) g s p c [901, 2104] LXR H)) := by
    intro j14 b17 hj16
    refine tt_k 2 (S' := (52, [some (.inr (.inl 21)), some (.inl x), some (.inl r5), none, none], [.inl (s4 2116), .inl j14], n, D, s4, p, c)) rfl ?_
    have b18 : 0 ≤ (s4 2116) ∧ (s4 2116) ≤ 1 := hS4 2116
    have K20 : ∀ (j19 : Int) , (0 ≤ j19 ∧ j19 ≤ 1) → (True) → tt Zi d 55 (60, [some (.inr (.inl 21)), some (.inl x), some (.inl r5), none, none], [.inl j19], n, D, s4, p, c) (fun R H => (∃ (s' : Nat → Int) (c' : Nat → Nat → Int), R = .inl none ∧ H = (n, D, s', p, c') ∧ bS s' ∧ bC D c' ∧ wp q g n D p s' ∧ fr s s' [2001, 2002, 2003, 2004] ∧ fk p c n p c' [901, 2104] ∧ (s 2001 ≤ 32768 → s' 2001 ≤ 32768)) ∨ (R = .inr 12 ∧ cX ((q + 1)) g s p c [901, 2104] LXR H)) := by
      intro j19 b22 hj21
      refine tt_k 2 (S' := (62, [some (.inr (.inl 21)), some (.inl x), some (.inl r5), some (.inl j19), none], [.inl j19], n, D, s4, p, c)) rfl ?_
      have K24 : ∀ (j23 : Int) , (-1073741824 ≤ j23 ∧ j23 ≤ 1073741823) → (True) → tt Zi d 55 (77, [some (.inr (.inl 21)), some (.inl x), some (.inl r5), some (.inl j19), none], [.inl j23], n, D, s4, p, c) (fun R H => (∃ (s' : Nat → Int) (c' : Nat → Nat → Int), R = .inl none ∧ H = (n, D, s', p, c') ∧ bS s' ∧ bC D c' ∧ wp q g n D p s' ∧ fr s s' [2001, 2002, 2003, 2004] ∧ fk p c n p c' [901, 2104] ∧ (s 2001 ≤ 32768 → s' 2001 ≤ 32768)) ∨ (R = .inr 12 ∧ cX ((q + 1)) g s p c [901, 2104] LXR H)) := by
        intro j23 b26 hj25
        refine tt_k 3 (S' := (82, [some (.inr (.inl 21)), some (.inl x), some (.inl r5), some (.inl j19), some (.inl j23)], [.inl j23, .inr (.inl 21)], n, D, s4, p, c)) rfl ?_
        refine tt_cl (by omega) rfl (g_checkError (Zi := Zi) (q := q) (n := n) (D := D) (s := s4) (p := p) (c := c) (by omega) hz (by omega) hD hS4 hC hW6 j23 (by omega)) ?_
        rintro _ H1 (⟨rfl, rfl, k27⟩ | ⟨rfl, hY28⟩)
        rotate_left
        · exact tt_ax rfl (Or.inr ⟨rfl, cX_mono (cX_trx (fk_rf hD) (show fr s s4 LXR from (fr_tr fr_rf f7 (by decide))) hY28 (by decide)) (by omega)⟩)
        show tt Zi d 55 (85, [some (.inr (.inl 21)), some (.inl x), some (.inl r5), some (.inl j19), some (.inl j23)], [], n, D, s4, p, c) _
        replace k27 : -65536 ≤ j23 ∧ j23 ≤ 65536 := k27
        refine tt_k 3 (S' := (89, [some (.inr (.inl 21)), some (.inl x), some (.inl r5), some (.inl j19), some (.inl j23)], [.inl j23, .inl x, .inr (.inl 21)], n, D, s4, p, c)) rfl ?_
        refine tt_cl (by omega) rfl (g_takeSample21 (Zi := Zi) (q := q) (n := n) (D := D) (s := s4) (p := p) (c := c) (by omega) hz (by omega) hD hS4 hC hW6 x j23 (by omega) (by omega)) ?_
        rintro _ _ ⟨c29, rfl, rfl, hC29, kf30⟩
        have FK31 : fk p c n p c29 [901, 2104] := fk_tr (fk_rf hD) kf30 (by decide)
        show tt Zi d 55 (92, [some (.inr (.inl 21)), some (.inl x), some (.inl r5), some (.inl j19), some (.inl j23)], [], n, D, s4, p, c29) _
        exact tt_rtv rfl rfl (Or.inl ⟨s4, c29, rfl, rfl, hS4, hC29, hW6, (fr_tr fr_rf f7 (by decide)), FK31, by show s 2001 ≤ 32768 → (s4 2001) ≤ 32768; omega⟩)
      refine tz_eq (x := j19) rfl rfl (by omega) (fun h32 => ?_) (fun h32 => ?_)
      · show tt Zi d 55 (74, [some (.inr (.inl 21)), some (.inl x), some (.inl r5), some (.inl j19), none], [], n, D, s4, p, c) _
        refine tt_k 2 (S' := (76, [some (.inr (.inl 21)), some (.inl x), some (.inl r5), some (.inl j19), none], [.inl 2, .inl r5], n, D, s4, p, c)) rfl ?_
        refine tt_div (x := r5) (y := 2) rfl (by omega) ?_
        show tt Zi d 55 (77, [some (.inr (.inl 21)), some (.inl x), some (.inl r5), some (.inl j19), none], [.inl (Int.tdiv r5 2)], n, D, s4, p, c) _
        have b33 := tdv_bd (x := r5) (y := 2) (a := 2147483648) (by omega) (by omega) (by omega)
        have b34 := tdh_bd (x := r5) (by omega)
        exact K24 (Int.tdiv r5 2)  (by omega) (trivial)
      · show tt Zi d 55 (65, [some (.inr (.inl 21)), some (.inl x), some (.inl r5), some (.inl j19), none], [], n, D, s4, p, c) _
        refine tt_k 2 (S' := (67, [some (.inr (.inl 21)), some (.inl x), some (.inl r5), some (.inl j19), none], [.inl 2, .inl r5], n, D, s4, p, c)) rfl ?_
        refine tt_div (x := r5) (y := 2) rfl (by omega) ?_
        show tt Zi d 55 (68, [some (.inr (.inl 21)), some (.inl x), some (.inl r5), some (.inl j19), none], [.inl (Int.tdiv r5 2)], n, D, s4, p, c) _
        have b35 := tdv_bd (x := r5) (y := 2) (a := 2147483648) (by omega) (by omega) (by omega)
        have b36 := tdh_bd (x := r5) (by omega)
        refine tt_k 4 (S' := (77, [some (.inr (.inl 21)), some (.inl x), some (.inl r5), some (.inl j19), none], [.inl (((-(Int.tdiv r5 2)) - 1))], n, D, s4, p, c)) rfl ?_
        exact K24 (((-(Int.tdiv r5 2)) - 1))  (by omega) (trivial)
    refine tb_eq (x := j14) (y := (s4 2116)) rfl rfl (by omega) (fun h37 => ?_) (fun h37 => ?_)
    · show tt Zi d 55 (59, [some (.inr (.inl 21)), some (.inl x), some (.inl r5), none, none], [], n, D, s4, p, c) _
      refine tt_k 1 (S' := (60, [some (.inr (.inl 21)), some (.inl x), some (.inl r5), none, none], [.inl 0], n, D, s4, p, c)) rfl ?_
      exact K20 0  (by omega) (trivial)
    · show tt Zi d 55 (55, [some (.inr (.inl 21)), some (.inl x), some (.inl r5), none, none], [], n, D, s4, p, c) _
      refine tt_k 2 (S' := (60, [some (.inr (.inl 21)), some (.inl x), some (.inl r5), none, none], [.inl 1], n, D, s4, p, c)) rfl ?_
      exact K20 1  (by omega) (trivial)
  refine tb_ne (x := (Int.tmod r5 2)) (y := 1) rfl rfl (by omega) (fun h38 => ?_) (fun h38 => ?_)
  · show tt Zi d 55 (47, [some (.inr (.inl 21)), some (.inl x), some (.inl r5), none, none], [], n, D, s4, p, c) _
    refine tt_k 1 (S' := (48, [some (.inr (.inl 21)), some (.inl x), some (.inl r5), none, none], [.inl 0], n, D, s4, p, c)) rfl ?_
    exact K15 0  (by omega) (trivial)
  · show tt Zi d 55 (43, [some (.inr (.inl 21)), some (.inl x), some (.inl r5), none, none], [], n, D, s4, p, c) _
    refine tt_k 2 (S' := (48, [some (.inr (.inl 21)), some (.inl x), some (.inl r5), none, none], [.inl 1], n, D, s4, p, c)) rfl ?_
    exact K15 1  (by omega) (trivial)
set_option maxRecDepth 100000 in
set_option maxHeartbeats 4000000 in
theorem g_tellStop21 {g : Nat → Int} {Zi : Nat → Option (Nat × (Nat → Int))} {d n q : Nat} {D : Nat → Nat × Nat} {s : Nat → Int} {p : Nat → Nat} {c : Nat → Nat → Int} (hd : 7 ≤ d) (hz : zk Zi) (hq : q + 14 ≤ 400000) (hD : wd n p) (hS : bS s) (hC : bC D c) (hW : wp q g n D p s) (x : Int) (b_x : 0 ≤ x ∧ x ≤ 63) : tt Zi d 74 (0, [some (.inr (.inl 21)), some (.inl x), none, none, none, none, none], [], n, D, s, p, c) (fun R H => (∃ (s' : Nat → Int) (c' : Nat → Nat → Int), R = .inl none ∧ H = (n, D, s', p, c') ∧ bS s' ∧ bC D c' ∧ wp q g n D p s' ∧ fr s s' [902, 2001, 2002, 2003, 2004] ∧ fk p c n p c' [901, 2104] ∧ (s 2001 ≤ 32768 → s' 2001 ≤ 32768)) ∨ (R = .inr 12 ∧ cX ((q + 1)) g s p c [901, 2104] LXR H)) := by
  refine tt_k 5 (S' := (9, [some (.inr (.inl 21)), some (.inl x), none, none, none, none, none], [.inr (.inl 21), .inl (s 2113), .inr (.inl 20)], n, D, s, p, c)) rfl ?_
  refine tt_cl (by omega) rfl (g_stopLimit21 (Zi := Zi) (q := q) (n := n) (D := D) (s := s) (p := p) (c := c) (by omega) hz (by omega) hD hS hC hW ) ?_
  rintro _ _ ⟨r1, rfl, rfl, b2⟩
  show tt Zi d 74 (12, [some (.inr (.inl 21)), some (.inl x), none, none, none, none, none], [.inl r1, .inl (s 2113), .inr (.inl 20)], n, D, s, p, c) _
  refine tt_k 9 (S' := (29, [some (.inr (.inl 21)), some (.inl x), none, none, none, none, none], [.inl (s 808), .inl (((r1 - (s 808)) - 1)), .inl (s 2113), .inr (.inl 20)], n, D, s, p, c)) rfl ?_
  have b3 : 0 ≤ (s 2113) ∧ (s 2113) ≤ 30 := hS 2113
  have b4 : 0 ≤ (s 808) ∧ (s 808) ≤ 30 := hS 808
  refine tt_cl (by omega) rfl (g_readNumber (Zi := Zi) (q := q) (n := n) (D := D) (s := s) (p := p) (c := c) (by omega) hz (by omega) hD hS hC hW (s 2113) (((r1 - (s 808)) - 1)) (s 808) (by omega) (by omega) (by omega)) ?_
  rintro _ H1 (⟨s5, r6, rfl, rfl, hS5, hW7, f8, b9, k10⟩ | ⟨rfl, hY11⟩)
  rotate_left
  · exact tt_ax rfl (Or.inr ⟨rfl, cX_mono (cX_trx (fk_rf hD) (show fr s s LXR from fr_rf) hY11 (by decide)) (by omega)⟩)
  show tt Zi d 74 (32, [some (.inr (.inl 21)), some (.inl x), none, none, none, none, none], [.inl r6], n, D, s5, p, c) _
  replace k10 : (s 2001) ≤ 32768 → (s5 2001) ≤ 32768 := k10
  have b12 : 0 ≤ (s 2001) ∧ (s 2001) ≤ 100000 := hS 2001
  have b13 : 0 ≤ (s5 2001) ∧ (s5 2001) ≤ 100000 := hS5 2001
  refine tt_k 5 (S' := (39, [some (.inr (.inl 21)), some (.inl x), some (.inl r6), none, none, none, none], [.inl (r6 + (s5 2112))], n, D, s5, p, c)) rfl ?_
  have b15 : 0 ≤ (s5 2112) ∧ (s5 2112) ≤ 1 := hS5 2112
  refine tt_wm (x := (r6 + (s5 2112))) ?_
  intro v14 b16 w17
  show tt Zi d 74 (39, [some (.inr (.inl 21)), some (.inl x), some (.inl r6), none, none, none, none], [.inl v14], n, D, s5, p, c) _
  refine tt_k 3 (S' := (42, [some (.inr (.inl 21)), some (.inl x), some (.inl r6), some (.inl v14), none, none, none], [.inl 2, .inl v14], n, D, s5, p, c)) rfl ?_
  refine tt_rmn (x := v14) (y := 2) rfl (by omega) ?_
  show tt Zi d 74 (43, [some (.inr (.inl 21)), some (.inl x), some (.inl r6), some (.inl v14), none, none, none], [.inl (Int.tmod v14 2)], n, D, s5, p, c) _
  have b18 := tm2_bd v14
  refine tt_k 1 (S' := (44, [some (.inr (.inl 21)), some (.inl x), some (.inl r6), some (.inl v14), none, none, none], [.inl 1, .inl (Int.tmod v14 2)], n, D, s5, p, c)) rfl ?_
  have K20 : ∀ (j19 : Int) , (0 ≤ j19 ∧ j19 ≤ 1) → (True) → tt Zi d 74 (52, [some (.inr (.inl 21)), some (.inl x), some (.inl r6), some (.inl v14), none, none, none], [.inl j19], n, D, s5, p, c) (fun R H => (∃ (s' : Nat → Int) (c' : Nat → Nat → Int), R = .inl none ∧ H = (n, D, s', p, c') ∧ bS s' ∧ bC D c' ∧ wp q g n D p s' ∧ fr s s' [902, 2001, 2002, 2003, 2004] ∧ fk p c n p c' [901, 2104] ∧ (s 2001 ≤ 32768 → s' 2001 ≤ 32768)) ∨ (R = .inr 12 ∧ cX ((q + 1)) g s p c [901, 2104] LXR H)) := by
    intro j19 b22 hj21
    refine tt_k 2 (S' := (56, [some (.inr (.inl 21)), some (.inl x), some (.inl r6), some (.inl v14), none, none, none], [.inl (s5 2116), .inl j19], n, D, s5, p, c)) rfl ?_
    have b23 : 0 ≤ (s5 2116) ∧ (s5 2116) ≤ 1 := hS5 2116
    have K25 : ∀ (j24 : Int) , (0 ≤ j24 ∧ j24 ≤ 1) → (True) → tt Zi d 74 (64, [some (.inr (.inl 21)), some (.inl x), some (.inl r6), some (.inl v14), none, none, none], [.inl j24], n, D, s5, p, c) (fun R H => (∃ (s' : Nat → Int) (c' : Nat → Nat → Int), R = .inl none ∧ H = (n, D, s', p, c') ∧ bS s' ∧ bC D c' ∧ wp q g n D p s' ∧ fr s s' [902, 2001, 2002, 2003, 2004] ∧ fk p c n p c' [901, 2104] ∧ (s 2001 ≤ 32768 → s' 2001 ≤ 32768)) ∨ (R = .inr 12 ∧ cX ((q + 1)) g s p c [901, 2104] LXR H)) := by
      intro j24 b27 hj26
      refine tt_k 4 (S' := (69, [some (.inr (.inl 21)), some (.inl x), some (.inl r6), some (.inl v14), some (.inl j24), none, none], [.inl (v14 + 1)], n, D, s5, p, c)) rfl ?_
      refine tt_wm (x := (v14 + 1)) ?_
      intro v28 b29 w30
      show tt Zi d 74 (69, [some (.inr (.inl 21)), some (.inl x), some (.inl r6), some (.inl v14), some (.inl j24), none, none], [.inl v28], n, D, s5, p, c) _
      refine tt_k 1 (S' := (70, [some (.inr (.inl 21)), some (.inl x), some (.inl r6), some (.inl v14), some (.inl j24), none, none], [.inl 2, .inl v28], n, D, s5, p, c)) rfl ?_
      refine tt_div (x := v28) (y := 2) rfl (by omega) ?_
      show tt Zi d 74 (71, [some (.inr (.inl 21)), some (.inl x), some (.inl r6), some (.inl v14), some (.inl j24), none, none], [.inl (Int.tdiv v28 2)], n, D, s5, p, c) _
      have b31 := tdv_bd (x := v28) (y := 2) (a := 2147483648) (by omega) (by omega) (by omega)
      have b32 := tdh_bd (x := v28) (by omega)
      refine tt_k 2 (S' := (75, [some (.inr (.inl 21)), some (.inl x), some (.inl r6), some (.inl v14), some (.inl j24), some (.inl (Int.tdiv v28 2)), none], [.inl j24], n, D, s5, p, c)) rfl ?_
      have K34 : ∀ (j33 : Int) , (-1073741824 ≤ j33 ∧ j33 ≤ 1073741824) → (True) → tt Zi d 74 (86, [some (.inr (.inl 21)), some (.inl x), some (.inl r6), some (.inl v14), some (.inl j24), some (.inl (Int.tdiv v28 2)), none], [.inl j33], n, D, s5, p, c) (fun R H => (∃ (s' : Nat → Int) (c' : Nat → Nat → Int), R = .inl none ∧ H = (n, D, s', p, c') ∧ bS s' ∧ bC D c' ∧ wp q g n D p s' ∧ fr s s' [902, 2001, 2002, 2003, 2004] ∧ fk p c n p c' [901, 2104] ∧ (s 2001 ≤ 32768 → s' 2001 ≤ 32768)) ∨ (R = .inr 12 ∧ cX ((q + 1)) g s p c [901, 2104] LXR H)) := by
        intro j33 b36 hj35
        refine tt_k 3 (S' := (91, [some (.inr (.inl 21)), some (.inl x), some (.inl r6), some (.inl v14), some (.inl j24), some (.inl (Int.tdiv v28 2)), some (.inl j33)], [.inl j33, .inr (.inl 21)], n, D, s5, p, c)) rfl ?_
        refine tt_cl (by omega) rfl (g_checkError (Zi := Zi) (q := q) (n := n) (D := D) (s := s5) (p := p) (c := c) (by omega) hz (by omega) hD hS5 hC hW7 j33 (by omega)) ?_
        rintro _ H1 (⟨rfl, rfl, k37⟩ | ⟨rfl, hY38⟩)
        rotate_left
        · exact tt_ax rfl (Or.inr ⟨rfl, cX_mono (cX_trx (fk_rf hD) (show fr s s5 LXR from (fr_tr fr_rf f8 (by decide))) hY38 (by decide)) (by omega)⟩)
        show tt Zi d 74 (94, [some (.inr (.inl 21)), some (.inl x), some (.inl r6), some (.inl v14), some (.inl j24), some (.inl (Int.tdiv v28 2)), some (.inl j33)], [], n, D, s5, p, c) _
        replace k37 : -65536 ≤ j33 ∧ j33 ≤ 65536 := k37
        refine tt_k 4 (S' := (99, [some (.inr (.inl 21)), some (.inl x), some (.inl r6), some (.inl v14), some (.inl j24), some (.inl (Int.tdiv v28 2)), some (.inl j33)], [.inl r6, .inl j33, .inl x, .inr (.inl 21)], n, D, s5, p, c)) rfl ?_
        refine tt_cl (by omega) rfl (g_takeStop21 (Zi := Zi) (q := q) (n := n) (D := D) (s := s5) (p := p) (c := c) (by omega) hz (by omega) hD hS5 hC hW7 x j33 r6 (by omega) (by omega) (by omega)) ?_
        rintro _ _ ⟨s39, c40, rfl, rfl, hS39, hC40, hW41, f42, kf43⟩
        have FK44 : fk p c n p c40 [901, 2104] := fk_tr (fk_rf hD) kf43 (by decide)
        show tt Zi d 74 (102, [some (.inr (.inl 21)), some (.inl x), some (.inl r6), some (.inl v14), some (.inl j24), some (.inl (Int.tdiv v28 2)), some (.inl j33)], [], n, D, s39, p, c40) _
        have e45 : s39 2001 = (s5 2001) := (f42 2001 (by decide))
        have b46 : 0 ≤ (s39 2001) ∧ (s39 2001) ≤ 100000 := hS39 2001
        exact tt_rtv rfl rfl (Or.inl ⟨s39, c40, rfl, rfl, hS39, hC40, hW41, (fr_tr (fr_tr fr_rf f8 (by decide)) f42 (by decide)), FK44, by show s 2001 ≤ 32768 → (s39 2001) ≤ 32768; omega⟩)
      refine tz_eq (x := j24) rfl rfl (by omega) (fun h47 => ?_) (fun h47 => ?_)
      · show tt Zi d 74 (84, [some (.inr (.inl 21)), some (.inl x), some (.inl r6), some (.inl v14), some (.inl j24), some (.inl (Int.tdiv v28 2)), none], [], n, D, s5, p, c) _
        refine tt_k 1 (S' := (86, [some (.inr (.inl 21)), some (.inl x), some (.inl r6), some (.inl v14), some (.inl j24), some (.inl (Int.tdiv v28 2)), none], [.inl (Int.tdiv v28 2)], n, D, s5, p, c)) rfl ?_
        exact K34 (Int.tdiv v28 2)  (by omega) (trivial)
      · show tt Zi d 74 (78, [some (.inr (.inl 21)), some (.inl x), some (.inl r6), some (.inl v14), some (.inl j24), some (.inl (Int.tdiv v28 2)), none], [], n, D, s5, p, c) _
        refine tt_k 3 (S' := (86, [some (.inr (.inl 21)), some (.inl x), some (.inl r6), some (.inl v14), some (.inl j24), some (.inl (Int.tdiv v28 2)), none], [.inl (-(Int.tdiv v28 2))], n, D, s5, p, c)) rfl ?_
        exact K34 (-(Int.tdiv v28 2))  (by omega) (trivial)
    refine tb_eq (x := j19) (y := (s5 2116)) rfl rfl (by omega) (fun h48 => ?_) (fun h48 => ?_)
    · show tt Zi d 74 (63, [some (.inr (.inl 21)), some (.inl x), some (.inl r6), some (.inl v14), none, none, none], [], n, D, s5, p, c) _
      refine tt_k 1 (S' := (64, [some (.inr (.inl 21)), some (.inl x), some (.inl r6), some (.inl v14), none, none, none], [.inl 0], n, D, s5, p, c)) rfl ?_
      exact K25 0  (by omega) (trivial)
    · show tt Zi d 74 (59, [some (.inr (.inl 21)), some (.inl x), some (.inl r6), some (.inl v14), none, none, none], [], n, D, s5, p, c) _
      refine tt_k 2 (S' := (64, [some (.inr (.inl 21)), some (.inl x), some (.inl r6), some (.inl v14), none, none, none], [.inl 1], n, D, s5, p, c)) rfl ?_
      exact K25 1  (by omega) (trivial)
  refine tb_ne (x := (Int.tmod v14 2)) (y := 1) rfl rfl (by omega) (fun h49 => ?_) (fun h49 => ?_)
  · show tt Zi d 74 (51, [some (.inr (.inl 21)), some (.inl x), some (.inl r6), some (.inl v14), none, none, none], [], n, D, s5, p, c) _
    refine tt_k 1 (S' := (52, [some (.inr (.inl 21)), some (.inl x), some (.inl r6), some (.inl v14), none, none, none], [.inl 0], n, D, s5, p, c)) rfl ?_
    exact K20 0  (by omega) (trivial)
  · show tt Zi d 74 (47, [some (.inr (.inl 21)), some (.inl x), some (.inl r6), some (.inl v14), none, none, none], [], n, D, s5, p, c) _
    refine tt_k 2 (S' := (52, [some (.inr (.inl 21)), some (.inl x), some (.inl r6), some (.inl v14), none, none, none], [.inl 1], n, D, s5, p, c)) rfl ?_
    exact K20 1  (by omega) (trivial)
set_option maxRecDepth 100000 in
set_option maxHeartbeats 4000000 in
theorem g_closeRow21_25 {g : Nat → Int} {Zi : Nat → Option (Nat × (Nat → Int))} {d n q : Nat} {D : Nat → Nat × Nat} {s : Nat → Int} {p : Nat → Nat} {c : Nat → Nat → Int} (hd : 0 ≤ d) (hz : zk Zi) (hq : q + 0 ≤ 400000) (hD : wd n p) (hS : bS s) (hC : bC D c) (hW : wp q g n D p s) (hp0 : s 2107 + s 2106 ≤ (ln D (p 2105) : Int)) (hp1 : p 2105 = p 2504) : tt Zi d 76 (0, [some (.inr (.inl 21))], [], n, D, s, p, c) (fun R H => ∃ (c' : Nat → Nat → Int), R = .inl none ∧ H = (n, D, s, p, c') ∧ bC D c' ∧ fk p c n p c' [2504]) := by
  have b1 : ln D (p 2105) ≤ 12288 := (hW).s21.2.2
  have b2 : 0 ≤ (s 2106) ∧ (s 2106) ≤ 64 := hS 2106
  have b3 : 0 ≤ (s 2107) ∧ (s 2107) ≤ 12288 := hS 2107
  refine tt_k 9 (S' := (17, [some (.inr (.inl 21))], [.inl (s 2106), .inl (s 2107), .inr (.inl (p 2105)), .inl 1, .inr (.inl (p 2104))], n, D, s, p, c)) rfl ?_
  refine tt_cpb (a := (p 2104)) (b := (p 2105)) (t := 0) (n0 := 66) (n1 := (ln D (p 2105))) (lo := 0) (hi := 65535) (k := (s 2106)) (dp := (s 2107)) (sp := 1) rfl rfl ((sw_arr (hW).a21 rfl rfl).2) ((hW).s21.1) (by decide) (Nat.le_of_ble_eq_true rfl) (by omega) hC ((sw_21 (hW).a21).2) ((hW).s21.2.1) (Or.inl rfl) ?_
  intro c4 hC4 ec4
  show tt Zi d 76 (20, [some (.inr (.inl 21))], [], n, D, s, p, c4) _
  have FK5 : fk p c n p c4 [2504] := fk_st (k := 2504) (fk_rf hD) ec4 (by decide) hp1.symm
  exact tt_rtv rfl rfl ⟨c4, rfl, rfl, hC4, FK5⟩
set_option maxRecDepth 100000 in
set_option maxHeartbeats 4000000 in
theorem g_closeRow21_27 {g : Nat → Int} {Zi : Nat → Option (Nat × (Nat → Int))} {d n q : Nat} {D : Nat → Nat × Nat} {s : Nat → Int} {p : Nat → Nat} {c : Nat → Nat → Int} (hd : 0 ≤ d) (hz : zk Zi) (hq : q + 0 ≤ 400000) (hD : wd n p) (hS : bS s) (hC : bC D c) (hW : wp q g n D p s) (hp0 : s 2107 + s 2106 ≤ (ln D (p 2105) : Int)) (hp1 : p 2105 = p 2704) : tt Zi d 76 (0, [some (.inr (.inl 21))], [], n, D, s, p, c) (fun R H => ∃ (c' : Nat → Nat → Int), R = .inl none ∧ H = (n, D, s, p, c') ∧ bC D c' ∧ fk p c n p c' [2704]) := by
  have b1 : ln D (p 2105) ≤ 12288 := (hW).s21.2.2
  have b2 : 0 ≤ (s 2106) ∧ (s 2106) ≤ 64 := hS 2106
  have b3 : 0 ≤ (s 2107) ∧ (s 2107) ≤ 12288 := hS 2107
  refine tt_k 9 (S' := (17, [some (.inr (.inl 21))], [.inl (s 2106), .inl (s 2107), .inr (.inl (p 2105)), .inl 1, .inr (.inl (p 2104))], n, D, s, p, c)) rfl ?_
  refine tt_cpb (a := (p 2104)) (b := (p 2105)) (t := 0) (n0 := 66) (n1 := (ln D (p 2105))) (lo := 0) (hi := 65535) (k := (s 2106)) (dp := (s 2107)) (sp := 1) rfl rfl ((sw_arr (hW).a21 rfl rfl).2) ((hW).s21.1) (by decide) (Nat.le_of_ble_eq_true rfl) (by omega) hC ((sw_21 (hW).a21).2) ((hW).s21.2.1) (Or.inl rfl) ?_
  intro c4 hC4 ec4
  show tt Zi d 76 (20, [some (.inr (.inl 21))], [], n, D, s, p, c4) _
  have FK5 : fk p c n p c4 [2704] := fk_st (k := 2704) (fk_rf hD) ec4 (by decide) hp1.symm
  exact tt_rtv rfl rfl ⟨c4, rfl, rfl, hC4, FK5⟩
