/-! the class's rows of bytes, its bit writer, its pictures' shapes -/
set_option maxRecDepth 100000 in
set_option maxHeartbeats 4000000 in
theorem g_get4 {g : Nat → Int} {Zi : Nat → Option (Nat × (Nat → Int))} {d n q : Nat} {D : Nat → Nat × Nat} {s : Nat → Int} {p : Nat → Nat} {c : Nat → Nat → Int} (hd : 0 ≤ d) (hz : zk Zi) (hq : q + 0 ≤ 400000) (hS : bS s) (hC : bC D c) (hW : wp q g n D p s) (i : Int) (b_i : -2147483648 ≤ i ∧ i ≤ 2147483647) (hp0 : 0 ≤ i ∧ i < (ln D (p 400) : Int)) : tt Zi d 21 (0, [some (.inr (.inl 4)), some (.inl i)], [], n, D, s, p, c) (fun R H => ∃ (r : Int), R = .inl (some (.inl r)) ∧ H = (n, D, s, p, c) ∧ (0 ≤ r ∧ r ≤ 255)) := by
  have b1 := wp_l4 hW
  refine tt_k 3 (S' := (5, [some (.inr (.inl 4)), some (.inl i)], [.inl i, .inr (.inl (p 400))], n, D, s, p, c)) rfl ?_
  refine tt_blb (i := i) (m := (ln D (p 400))) (lo := -128) (hi := 127) rfl ((hW).r4.1) (by omega) hC ((hW).r4.2) ?_
  intro v2 b3
  show tt Zi d 21 (6, [some (.inr (.inl 4)), some (.inl i)], [.inl v2], n, D, s, p, c) _
  refine tt_k 2 (S' := (10, [some (.inr (.inl 4)), some (.inl i)], [.inl (mi_and v2 255)], n, D, s, p, c)) rfl ?_
  have e4 := mi_and255 v2
  exact tt_rti rfl rfl ⟨(mi_and v2 255), rfl, rfl, by omega⟩
set_option maxRecDepth 100000 in
set_option maxHeartbeats 4000000 in
theorem g_add4x {g : Nat → Int} {Zi : Nat → Option (Nat × (Nat → Int))} {d n q : Nat} {D : Nat → Nat × Nat} {s : Nat → Int} {p : Nat → Nat} {c : Nat → Nat → Int} (hd : 1 ≤ d) (hz : zk Zi) (hq : q + 2 ≤ 400000) (hS : bS (us s 1602 1)) (hC : bC D c) (hW : wp q g n D p s) (v : Int) (b_v : -2147483648 ≤ v ∧ v ≤ 2147483647) (hp0 : s 401 ≤ 262143) : tt Zi d 48 (0, [some (.inr (.inl 4)), some (.inl v)], [], n, D, s, p, c) (fun R H => ∃ (n' : Nat) (D' : Nat → Nat × Nat) (s' : Nat → Int) (p' : Nat → Nat) (c' : Nat → Nat → Int), R = .inl none ∧ H = (n', D', s', p', c') ∧ bS (us s' 1602 1) ∧ bC D' c' ∧ wp q g n' D' p' s' ∧ fr s s' [401] ∧ frp p p' [400] ∧ ext n D n' D' ∧ (s' 401 = s 401 + 1)) := by
  have b1 := wp_l4 hW
  have hc4 := hW.c4
  have b2 : 0 ≤ (s 401) ∧ (s 401) ≤ 262144 := hS 401
  refine tt_k 4 (S' := (8, [some (.inr (.inl 4)), some (.inl v)], [.inr (.inl (p 400)), .inl (s 401)], n, D, s, p, c)) rfl ?_
  refine tt_len (m := (ln D (p 400))) rfl ((hW).r4.1) rfl ?_
  show tt Zi d 48 (9, [some (.inr (.inl 4)), some (.inl v)], [.inl (((ln D (p 400)) : Int)), .inl (s 401)], n, D, s, p, c) _
  refine tb_ne (x := (s 401)) (y := ((ln D (p 400)) : Int)) rfl rfl (by omega) (fun h3 => ?_) (fun h3 => ?_)
  · show tt Zi d 48 (30, [some (.inr (.inl 4)), some (.inl v)], [], n, D, s, p, c) _
    refine tt_k 6 (S' := (40, [some (.inr (.inl 4)), some (.inl v)], [.inl (mi_i2b v), .inl (s 401), .inr (.inl (p 400))], n, D, s, p, c)) rfl ?_
    have e4 := mi_i2b_bd v
    refine tt_bsb (i := (s 401)) (m := (ln D (p 400))) (lo := -128) (hi := 127) (x := (mi_i2b v)) rfl ((hW).r4.1) (by omega) hC ((hW).r4.2) ⟨rfl, rfl⟩ ?_
    intro c5 hC5
    show tt Zi d 48 (41, [some (.inr (.inl 4)), some (.inl v)], [], n, D, s, p, c5) _
    refine tt_k 6 (S' := (51, [some (.inr (.inl 4)), some (.inl v)], [], n, D, (us s 401 ((s 401) + 1)), p, c5)) rfl ?_
    exact tt_rtv rfl rfl ⟨n, D, (us s 401 ((s 401) + 1)), p, c5, rfl, rfl, (us_bs (by decide) (bS_us hS (show 0 ≤ ((s 401) + 1) ∧ ((s 401) + 1) ≤ 262144 by omega))), hC5, (wp_c4 hW (show ((s 401) + 1) ≤ (ln D (p 400) : Int) by omega)), (fr_us (by decide) fr_rf), frp_rf, ext_rf, rfl⟩
  · show tt Zi d 48 (12, [some (.inr (.inl 4)), some (.inl v)], [], n, D, s, p, c) _
    refine tt_k 6 (S' := (22, [some (.inr (.inl 4)), some (.inl v)], [.inr (.inl (p 400)), .inl 2, .inr (.inl (p 400)), .inr (.inl 4)], n, D, s, p, c)) rfl ?_
    refine tt_len (m := (ln D (p 400))) rfl ((hW).r4.1) rfl ?_
    show tt Zi d 48 (23, [some (.inr (.inl 4)), some (.inl v)], [.inl (((ln D (p 400)) : Int)), .inl 2, .inr (.inl (p 400)), .inr (.inl 4)], n, D, s, p, c) _
    refine tt_k 1 (S' := (24, [some (.inr (.inl 4)), some (.inl v)], [.inl ((2 * ((ln D (p 400)) : Int))), .inr (.inl (p 400)), .inr (.inl 4)], n, D, s, p, c)) rfl ?_
    have hn7 := wp_n hW (by omega)
    refine tt_cl (by omega) rfl (g_copyOf (A := (p 400)) (x := (2 * ((ln D (p 400)) : Int))) (s := s) (p := p) (hW).r4 (by omega) (by omega) (by omega) hC) ?_
    rintro _ _ ⟨c6, rfl, rfl, hC6⟩
    show tt Zi d 48 (27, [some (.inr (.inl 4)), some (.inl v)], [.inr (.inl (48 + n)), .inr (.inl 4)], (n + 1), (ud D (48 + n) (1, ((2 * ((ln D (p 400)) : Int))).toNat)), s, p, c6) _
    refine tt_k 7 (S' := (40, [some (.inr (.inl 4)), some (.inl v)], [.inl (mi_i2b v), .inl (s 401), .inr (.inl (48 + n))], (n + 1), (ud D (48 + n) (1, ((2 * ((ln D (p 400)) : Int))).toNat)), s, (up p 400 (48 + n)), c6)) rfl ?_
    have e8 := mi_i2b_bd v
    refine tt_bsb (i := (s 401)) (m := ((2 * ((ln D (p 400)) : Int))).toNat) (lo := -128) (hi := 127) (x := (mi_i2b v)) rfl (arr_nw (by omega)) (by omega) hC6 lo_nw1 ⟨rfl, rfl⟩ ?_
    intro c9 hC9
    show tt Zi d 48 (41, [some (.inr (.inl 4)), some (.inl v)], [], (n + 1), (ud D (48 + n) (1, ((2 * ((ln D (p 400)) : Int))).toNat)), s, (up p 400 (48 + n)), c9) _
    refine tt_k 6 (S' := (51, [some (.inr (.inl 4)), some (.inl v)], [], (n + 1), (ud D (48 + n) (1, ((2 * ((ln D (p 400)) : Int))).toNat)), (us s 401 ((s 401) + 1)), (up p 400 (48 + n)), c9)) rfl ?_
    exact tt_rtv rfl rfl ⟨(n + 1), (ud D (48 + n) (1, ((2 * ((ln D (p 400)) : Int))).toNat)), (us s 401 ((s 401) + 1)), (up p 400 (48 + n)), c9, rfl, rfl, (us_bs (by decide) (bS_us hS (show 0 ≤ ((s 401) + 1) ∧ ((s 401) + 1) ≤ 262144 by omega))), hC9, (wp_c4 (wp_g4 hW (by omega) (by omega) (by omega)) (show ((s 401) + 1) ≤ (ln (ud D (48 + n) (1, ((2 * ((ln D (p 400)) : Int))).toNat)) (48 + n) : Int) by rw [ln_nw]; omega)), (fr_us (by decide) fr_rf), (frp_up (by decide) frp_rf), (ext_tr ext_rf ext_1), rfl⟩
set_option maxRecDepth 100000 in
set_option maxHeartbeats 4000000 in
theorem g_add4 {g : Nat → Int} {Zi : Nat → Option (Nat × (Nat → Int))} {d n q : Nat} {D : Nat → Nat × Nat} {s : Nat → Int} {p : Nat → Nat} {c : Nat → Nat → Int} (hd : 1 ≤ d) (hz : zk Zi) (hq : q + 2 ≤ 400000) (hS : bS s) (hC : bC D c) (hW : wp q g n D p s) (v : Int) (b_v : -2147483648 ≤ v ∧ v ≤ 2147483647) (hp0 : s 401 ≤ 262143) : tt Zi d 48 (0, [some (.inr (.inl 4)), some (.inl v)], [], n, D, s, p, c) (fun R H => ∃ (n' : Nat) (D' : Nat → Nat × Nat) (s' : Nat → Int) (p' : Nat → Nat) (c' : Nat → Nat → Int), R = .inl none ∧ H = (n', D', s', p', c') ∧ bS s' ∧ bC D' c' ∧ wp q g n' D' p' s' ∧ fr s s' [401] ∧ frp p p' [400] ∧ ext n D n' D' ∧ (s' 401 = s 401 + 1)) := by
  have b1 := wp_l4 hW
  have hc4 := hW.c4
  have b2 : 0 ≤ (s 401) ∧ (s 401) ≤ 262144 := hS 401
  refine tt_k 4 (S' := (8, [some (.inr (.inl 4)), some (.inl v)], [.inr (.inl (p 400)), .inl (s 401)], n, D, s, p, c)) rfl ?_
  refine tt_len (m := (ln D (p 400))) rfl ((hW).r4.1) rfl ?_
  show tt Zi d 48 (9, [some (.inr (.inl 4)), some (.inl v)], [.inl (((ln D (p 400)) : Int)), .inl (s 401)], n, D, s, p, c) _
  refine tb_ne (x := (s 401)) (y := ((ln D (p 400)) : Int)) rfl rfl (by omega) (fun h3 => ?_) (fun h3 => ?_)
  · show tt Zi d 48 (30, [some (.inr (.inl 4)), some (.inl v)], [], n, D, s, p, c) _
    refine tt_k 6 (S' := (40, [some (.inr (.inl 4)), some (.inl v)], [.inl (mi_i2b v), .inl (s 401), .inr (.inl (p 400))], n, D, s, p, c)) rfl ?_
    have e4 := mi_i2b_bd v
    refine tt_bsb (i := (s 401)) (m := (ln D (p 400))) (lo := -128) (hi := 127) (x := (mi_i2b v)) rfl ((hW).r4.1) (by omega) hC ((hW).r4.2) ⟨rfl, rfl⟩ ?_
    intro c5 hC5
    show tt Zi d 48 (41, [some (.inr (.inl 4)), some (.inl v)], [], n, D, s, p, c5) _
    refine tt_k 6 (S' := (51, [some (.inr (.inl 4)), some (.inl v)], [], n, D, (us s 401 ((s 401) + 1)), p, c5)) rfl ?_
    exact tt_rtv rfl rfl ⟨n, D, (us s 401 ((s 401) + 1)), p, c5, rfl, rfl, (bS_us hS (show 0 ≤ ((s 401) + 1) ∧ ((s 401) + 1) ≤ 262144 by omega)), hC5, (wp_c4 hW (show ((s 401) + 1) ≤ (ln D (p 400) : Int) by omega)), (fr_us (by decide) fr_rf), frp_rf, ext_rf, rfl⟩
  · show tt Zi d 48 (12, [some (.inr (.inl 4)), some (.inl v)], [], n, D, s, p, c) _
    refine tt_k 6 (S' := (22, [some (.inr (.inl 4)), some (.inl v)], [.inr (.inl (p 400)), .inl 2, .inr (.inl (p 400)), .inr (.inl 4)], n, D, s, p, c)) rfl ?_
    refine tt_len (m := (ln D (p 400))) rfl ((hW).r4.1) rfl ?_
    show tt Zi d 48 (23, [some (.inr (.inl 4)), some (.inl v)], [.inl (((ln D (p 400)) : Int)), .inl 2, .inr (.inl (p 400)), .inr (.inl 4)], n, D, s, p, c) _
    refine tt_k 1 (S' := (24, [some (.inr (.inl 4)), some (.inl v)], [.inl ((2 * ((ln D (p 400)) : Int))), .inr (.inl (p 400)), .inr (.inl 4)], n, D, s, p, c)) rfl ?_
    have hn7 := wp_n hW (by omega)
    refine tt_cl (by omega) rfl (g_copyOf (A := (p 400)) (x := (2 * ((ln D (p 400)) : Int))) (s := s) (p := p) (hW).r4 (by omega) (by omega) (by omega) hC) ?_
    rintro _ _ ⟨c6, rfl, rfl, hC6⟩
    show tt Zi d 48 (27, [some (.inr (.inl 4)), some (.inl v)], [.inr (.inl (48 + n)), .inr (.inl 4)], (n + 1), (ud D (48 + n) (1, ((2 * ((ln D (p 400)) : Int))).toNat)), s, p, c6) _
    refine tt_k 7 (S' := (40, [some (.inr (.inl 4)), some (.inl v)], [.inl (mi_i2b v), .inl (s 401), .inr (.inl (48 + n))], (n + 1), (ud D (48 + n) (1, ((2 * ((ln D (p 400)) : Int))).toNat)), s, (up p 400 (48 + n)), c6)) rfl ?_
    have e8 := mi_i2b_bd v
    refine tt_bsb (i := (s 401)) (m := ((2 * ((ln D (p 400)) : Int))).toNat) (lo := -128) (hi := 127) (x := (mi_i2b v)) rfl (arr_nw (by omega)) (by omega) hC6 lo_nw1 ⟨rfl, rfl⟩ ?_
    intro c9 hC9
    show tt Zi d 48 (41, [some (.inr (.inl 4)), some (.inl v)], [], (n + 1), (ud D (48 + n) (1, ((2 * ((ln D (p 400)) : Int))).toNat)), s, (up p 400 (48 + n)), c9) _
    refine tt_k 6 (S' := (51, [some (.inr (.inl 4)), some (.inl v)], [], (n + 1), (ud D (48 + n) (1, ((2 * ((ln D (p 400)) : Int))).toNat)), (us s 401 ((s 401) + 1)), (up p 400 (48 + n)), c9)) rfl ?_
    exact tt_rtv rfl rfl ⟨(n + 1), (ud D (48 + n) (1, ((2 * ((ln D (p 400)) : Int))).toNat)), (us s 401 ((s 401) + 1)), (up p 400 (48 + n)), c9, rfl, rfl, (bS_us hS (show 0 ≤ ((s 401) + 1) ∧ ((s 401) + 1) ≤ 262144 by omega)), hC9, (wp_c4 (wp_g4 hW (by omega) (by omega) (by omega)) (show ((s 401) + 1) ≤ (ln (ud D (48 + n) (1, ((2 * ((ln D (p 400)) : Int))).toNat)) (48 + n) : Int) by rw [ln_nw]; omega)), (fr_us (by decide) fr_rf), (frp_up (by decide) frp_rf), (ext_tr ext_rf ext_1), rfl⟩
set_option maxRecDepth 100000 in
set_option maxHeartbeats 4000000 in
theorem g_addTwo4 {g : Nat → Int} {Zi : Nat → Option (Nat × (Nat → Int))} {d n q : Nat} {D : Nat → Nat × Nat} {s : Nat → Int} {p : Nat → Nat} {c : Nat → Nat → Int} (hd : 2 ≤ d) (hz : zk Zi) (hq : q + 4 ≤ 400000) (hS : bS s) (hC : bC D c) (hW : wp q g n D p s) (v : Int) (b_v : -2147483648 ≤ v ∧ v ≤ 2147483647) (hp0 : s 401 ≤ 262142) : tt Zi d 110 (0, [some (.inr (.inl 4)), some (.inl v)], [], n, D, s, p, c) (fun R H => ∃ (n' : Nat) (D' : Nat → Nat × Nat) (s' : Nat → Int) (p' : Nat → Nat) (c' : Nat → Nat → Int), R = .inl none ∧ H = (n', D', s', p', c') ∧ bS s' ∧ bC D' c' ∧ wp q g n' D' p' s' ∧ fr s s' [401] ∧ frp p p' [400] ∧ ext n D n' D' ∧ (s' 401 = s 401 + 2)) := by
  refine tt_k 4 (S' := (5, [some (.inr (.inl 4)), some (.inl v)], [.inl (mi_shr v 8), .inr (.inl 4)], n, D, s, p, c)) rfl ?_
  have e1 := mi_shr_bd v 8
  have b2 : 0 ≤ (s 401) ∧ (s 401) ≤ 262144 := hS 401
  refine tt_cl (by omega) rfl (g_add4 (Zi := Zi) (q := q) (n := n) (D := D) (s := s) (p := p) (c := c) (by omega) hz (by omega) hS hC hW (mi_shr v 8) (by omega) (show (s 401) ≤ 262143 by omega)) ?_
  rintro _ _ ⟨n3, D4, s5, p6, c7, rfl, rfl, hS5, hC7, hW8, f9, g10, xe11, k12⟩
  show tt Zi d 110 (8, [some (.inr (.inl 4)), some (.inl v)], [], n3, D4, s5, p6, c7) _
  replace k12 : (s5 401) = (s 401) + 1 := k12
  have b13 : 0 ≤ (s5 401) ∧ (s5 401) ≤ 262144 := hS5 401
  refine tt_k 2 (S' := (10, [some (.inr (.inl 4)), some (.inl v)], [.inl v, .inr (.inl 4)], n3, D4, s5, p6, c7)) rfl ?_
  refine tt_cl (by omega) rfl (g_add4 (Zi := Zi) (q := q) (n := n3) (D := D4) (s := s5) (p := p6) (c := c7) (by omega) hz (by omega) hS5 hC7 hW8 v (by omega) (show (s5 401) ≤ 262143 by omega)) ?_
  rintro _ _ ⟨n14, D15, s16, p17, c18, rfl, rfl, hS16, hC18, hW19, f20, g21, xe22, k23⟩
  show tt Zi d 110 (13, [some (.inr (.inl 4)), some (.inl v)], [], n14, D15, s16, p17, c18) _
  replace k23 : (s16 401) = (s5 401) + 1 := k23
  have b24 : 0 ≤ (s16 401) ∧ (s16 401) ≤ 262144 := hS16 401
  exact tt_rtv rfl rfl ⟨n14, D15, s16, p17, c18, rfl, rfl, hS16, hC18, hW19, (fr_tr (fr_tr fr_rf f9 (by decide)) f20 (by decide)), (frp_tr (frp_tr frp_rf g10 (by decide)) g21 (by decide)), (ext_tr (ext_tr ext_rf xe11) xe22), by show (s16 401) = s 401 + 2; omega⟩
set_option maxRecDepth 100000 in
set_option maxHeartbeats 4000000 in
theorem g_addMark4 {g : Nat → Int} {Zi : Nat → Option (Nat × (Nat → Int))} {d n q : Nat} {D : Nat → Nat × Nat} {s : Nat → Int} {p : Nat → Nat} {c : Nat → Nat → Int} (hd : 2 ≤ d) (hz : zk Zi) (hq : q + 4 ≤ 400000) (hS : bS s) (hC : bC D c) (hW : wp q g n D p s) (v : Int) (b_v : -2147483648 ≤ v ∧ v ≤ 2147483647) (hp0 : s 401 ≤ 262142) : tt Zi d 108 (0, [some (.inr (.inl 4)), some (.inl v)], [], n, D, s, p, c) (fun R H => ∃ (n' : Nat) (D' : Nat → Nat × Nat) (s' : Nat → Int) (p' : Nat → Nat) (c' : Nat → Nat → Int), R = .inl none ∧ H = (n', D', s', p', c') ∧ bS s' ∧ bC D' c' ∧ wp q g n' D' p' s' ∧ fr s s' [401] ∧ frp p p' [400] ∧ ext n D n' D' ∧ (s' 401 = s 401 + 2)) := by
  refine tt_k 2 (S' := (4, [some (.inr (.inl 4)), some (.inl v)], [.inl 255, .inr (.inl 4)], n, D, s, p, c)) rfl ?_
  have b1 : 0 ≤ (s 401) ∧ (s 401) ≤ 262144 := hS 401
  refine tt_cl (by omega) rfl (g_add4 (Zi := Zi) (q := q) (n := n) (D := D) (s := s) (p := p) (c := c) (by omega) hz (by omega) hS hC hW 255 (by omega) (show (s 401) ≤ 262143 by omega)) ?_
  rintro _ _ ⟨n2, D3, s4, p5, c6, rfl, rfl, hS4, hC6, hW7, f8, g9, xe10, k11⟩
  show tt Zi d 108 (7, [some (.inr (.inl 4)), some (.inl v)], [], n2, D3, s4, p5, c6) _
  replace k11 : (s4 401) = (s 401) + 1 := k11
  have b12 : 0 ≤ (s4 401) ∧ (s4 401) ≤ 262144 := hS4 401
  refine tt_k 2 (S' := (9, [some (.inr (.inl 4)), some (.inl v)], [.inl v, .inr (.inl 4)], n2, D3, s4, p5, c6)) rfl ?_
  refine tt_cl (by omega) rfl (g_add4 (Zi := Zi) (q := q) (n := n2) (D := D3) (s := s4) (p := p5) (c := c6) (by omega) hz (by omega) hS4 hC6 hW7 v (by omega) (show (s4 401) ≤ 262143 by omega)) ?_
  rintro _ _ ⟨n13, D14, s15, p16, c17, rfl, rfl, hS15, hC17, hW18, f19, g20, xe21, k22⟩
  show tt Zi d 108 (12, [some (.inr (.inl 4)), some (.inl v)], [], n13, D14, s15, p16, c17) _
  replace k22 : (s15 401) = (s4 401) + 1 := k22
  have b23 : 0 ≤ (s15 401) ∧ (s15 401) ≤ 262144 := hS15 401
  exact tt_rtv rfl rfl ⟨n13, D14, s15, p16, c17, rfl, rfl, hS15, hC17, hW18, (fr_tr (fr_tr fr_rf f8 (by decide)) f19 (by decide)), (frp_tr (frp_tr frp_rf g9 (by decide)) g20 (by decide)), (ext_tr (ext_tr ext_rf xe10) xe21), by show (s15 401) = s 401 + 2; omega⟩
set_option maxRecDepth 100000 in
set_option maxHeartbeats 4000000 in
theorem g_get6 {g : Nat → Int} {Zi : Nat → Option (Nat × (Nat → Int))} {d n q : Nat} {D : Nat → Nat × Nat} {s : Nat → Int} {p : Nat → Nat} {c : Nat → Nat → Int} (hd : 0 ≤ d) (hz : zk Zi) (hq : q + 0 ≤ 400000) (hS : bS s) (hC : bC D c) (hW : wp q g n D p s) (i : Int) (b_i : -2147483648 ≤ i ∧ i ≤ 2147483647) (hp0 : 0 ≤ i ∧ i < (ln D (p 600) : Int)) : tt Zi d 21 (0, [some (.inr (.inl 6)), some (.inl i)], [], n, D, s, p, c) (fun R H => ∃ (r : Int), R = .inl (some (.inl r)) ∧ H = (n, D, s, p, c) ∧ (0 ≤ r ∧ r ≤ 255)) := by
  have b1 := wp_l6 hW
  refine tt_k 3 (S' := (5, [some (.inr (.inl 6)), some (.inl i)], [.inl i, .inr (.inl (p 600))], n, D, s, p, c)) rfl ?_
  refine tt_blb (i := i) (m := (ln D (p 600))) (lo := -128) (hi := 127) rfl ((hW).r6.1) (by omega) hC ((hW).r6.2) ?_
  intro v2 b3
  show tt Zi d 21 (6, [some (.inr (.inl 6)), some (.inl i)], [.inl v2], n, D, s, p, c) _
  refine tt_k 2 (S' := (10, [some (.inr (.inl 6)), some (.inl i)], [.inl (mi_and v2 255)], n, D, s, p, c)) rfl ?_
  have e4 := mi_and255 v2
  exact tt_rti rfl rfl ⟨(mi_and v2 255), rfl, rfl, by omega⟩
set_option maxRecDepth 100000 in
set_option maxHeartbeats 4000000 in
theorem g_add6 {g : Nat → Int} {Zi : Nat → Option (Nat × (Nat → Int))} {d n q : Nat} {D : Nat → Nat × Nat} {s : Nat → Int} {p : Nat → Nat} {c : Nat → Nat → Int} (hd : 1 ≤ d) (hz : zk Zi) (hq : q + 2 ≤ 400000) (hS : bS s) (hC : bC D c) (hW : wp q g n D p s) (v : Int) (b_v : -2147483648 ≤ v ∧ v ≤ 2147483647) (hp0 : s 601 ≤ 32767) : tt Zi d 48 (0, [some (.inr (.inl 6)), some (.inl v)], [], n, D, s, p, c) (fun R H => ∃ (n' : Nat) (D' : Nat → Nat × Nat) (s' : Nat → Int) (p' : Nat → Nat) (c' : Nat → Nat → Int), R = .inl none ∧ H = (n', D', s', p', c') ∧ bS s' ∧ bC D' c' ∧ wp q g n' D' p' s' ∧ fr s s' [601] ∧ frp p p' [600] ∧ ext n D n' D' ∧ (s' 601 = s 601 + 1)) := by
  have b1 := wp_l6 hW
  have hc4 := hW.c6
  have b2 : 0 ≤ (s 601) ∧ (s 601) ≤ 32768 := hS 601
  refine tt_k 4 (S' := (8, [some (.inr (.inl 6)), some (.inl v)], [.inr (.inl (p 600)), .inl (s 601)], n, D, s, p, c)) rfl ?_
  refine tt_len (m := (ln D (p 600))) rfl ((hW).r6.1) rfl ?_
  show tt Zi d 48 (9, [some (.inr (.inl 6)), some (.inl v)], [.inl (((ln D (p 600)) : Int)), .inl (s 601)], n, D, s, p, c) _
  refine tb_ne (x := (s 601)) (y := ((ln D (p 600)) : Int)) rfl rfl (by omega) (fun h3 => ?_) (fun h3 => ?_)
  · show tt Zi d 48 (30, [some (.inr (.inl 6)), some (.inl v)], [], n, D, s, p, c) _
    refine tt_k 6 (S' := (40, [some (.inr (.inl 6)), some (.inl v)], [.inl (mi_i2b v), .inl (s 601), .inr (.inl (p 600))], n, D, s, p, c)) rfl ?_
    have e4 := mi_i2b_bd v
    refine tt_bsb (i := (s 601)) (m := (ln D (p 600))) (lo := -128) (hi := 127) (x := (mi_i2b v)) rfl ((hW).r6.1) (by omega) hC ((hW).r6.2) ⟨rfl, rfl⟩ ?_
    intro c5 hC5
    show tt Zi d 48 (41, [some (.inr (.inl 6)), some (.inl v)], [], n, D, s, p, c5) _
    refine tt_k 6 (S' := (51, [some (.inr (.inl 6)), some (.inl v)], [], n, D, (us s 601 ((s 601) + 1)), p, c5)) rfl ?_
    exact tt_rtv rfl rfl ⟨n, D, (us s 601 ((s 601) + 1)), p, c5, rfl, rfl, (bS_us hS (show 0 ≤ ((s 601) + 1) ∧ ((s 601) + 1) ≤ 32768 by omega)), hC5, (wp_c6 hW (show ((s 601) + 1) ≤ (ln D (p 600) : Int) by omega)), (fr_us (by decide) fr_rf), frp_rf, ext_rf, rfl⟩
  · show tt Zi d 48 (12, [some (.inr (.inl 6)), some (.inl v)], [], n, D, s, p, c) _
    refine tt_k 6 (S' := (22, [some (.inr (.inl 6)), some (.inl v)], [.inr (.inl (p 600)), .inl 2, .inr (.inl (p 600)), .inr (.inl 6)], n, D, s, p, c)) rfl ?_
    refine tt_len (m := (ln D (p 600))) rfl ((hW).r6.1) rfl ?_
    show tt Zi d 48 (23, [some (.inr (.inl 6)), some (.inl v)], [.inl (((ln D (p 600)) : Int)), .inl 2, .inr (.inl (p 600)), .inr (.inl 6)], n, D, s, p, c) _
    refine tt_k 1 (S' := (24, [some (.inr (.inl 6)), some (.inl v)], [.inl ((2 * ((ln D (p 600)) : Int))), .inr (.inl (p 600)), .inr (.inl 6)], n, D, s, p, c)) rfl ?_
    have hn7 := wp_n hW (by omega)
    refine tt_cl (by omega) rfl (g_copyOf (A := (p 600)) (x := (2 * ((ln D (p 600)) : Int))) (s := s) (p := p) (hW).r6 (by omega) (by omega) (by omega) hC) ?_
    rintro _ _ ⟨c6, rfl, rfl, hC6⟩
    show tt Zi d 48 (27, [some (.inr (.inl 6)), some (.inl v)], [.inr (.inl (48 + n)), .inr (.inl 6)], (n + 1), (ud D (48 + n) (1, ((2 * ((ln D (p 600)) : Int))).toNat)), s, p, c6) _
    refine tt_k 7 (S' := (40, [some (.inr (.inl 6)), some (.inl v)], [.inl (mi_i2b v), .inl (s 601), .inr (.inl (48 + n))], (n + 1), (ud D (48 + n) (1, ((2 * ((ln D (p 600)) : Int))).toNat)), s, (up p 600 (48 + n)), c6)) rfl ?_
    have e8 := mi_i2b_bd v
    refine tt_bsb (i := (s 601)) (m := ((2 * ((ln D (p 600)) : Int))).toNat) (lo := -128) (hi := 127) (x := (mi_i2b v)) rfl (arr_nw (by omega)) (by omega) hC6 lo_nw1 ⟨rfl, rfl⟩ ?_
    intro c9 hC9
    show tt Zi d 48 (41, [some (.inr (.inl 6)), some (.inl v)], [], (n + 1), (ud D (48 + n) (1, ((2 * ((ln D (p 600)) : Int))).toNat)), s, (up p 600 (48 + n)), c9) _
    refine tt_k 6 (S' := (51, [some (.inr (.inl 6)), some (.inl v)], [], (n + 1), (ud D (48 + n) (1, ((2 * ((ln D (p 600)) : Int))).toNat)), (us s 601 ((s 601) + 1)), (up p 600 (48 + n)), c9)) rfl ?_
    exact tt_rtv rfl rfl ⟨(n + 1), (ud D (48 + n) (1, ((2 * ((ln D (p 600)) : Int))).toNat)), (us s 601 ((s 601) + 1)), (up p 600 (48 + n)), c9, rfl, rfl, (bS_us hS (show 0 ≤ ((s 601) + 1) ∧ ((s 601) + 1) ≤ 32768 by omega)), hC9, (wp_c6 (wp_g6 hW (by omega) (by omega) (by omega)) (show ((s 601) + 1) ≤ (ln (ud D (48 + n) (1, ((2 * ((ln D (p 600)) : Int))).toNat)) (48 + n) : Int) by rw [ln_nw]; omega)), (fr_us (by decide) fr_rf), (frp_up (by decide) frp_rf), (ext_tr ext_rf ext_1), rfl⟩
set_option maxRecDepth 100000 in
set_option maxHeartbeats 4000000 in
theorem g_addTwo6 {g : Nat → Int} {Zi : Nat → Option (Nat × (Nat → Int))} {d n q : Nat} {D : Nat → Nat × Nat} {s : Nat → Int} {p : Nat → Nat} {c : Nat → Nat → Int} (hd : 2 ≤ d) (hz : zk Zi) (hq : q + 4 ≤ 400000) (hS : bS s) (hC : bC D c) (hW : wp q g n D p s) (v : Int) (b_v : -2147483648 ≤ v ∧ v ≤ 2147483647) (hp0 : s 601 ≤ 32766) : tt Zi d 110 (0, [some (.inr (.inl 6)), some (.inl v)], [], n, D, s, p, c) (fun R H => ∃ (n' : Nat) (D' : Nat → Nat × Nat) (s' : Nat → Int) (p' : Nat → Nat) (c' : Nat → Nat → Int), R = .inl none ∧ H = (n', D', s', p', c') ∧ bS s' ∧ bC D' c' ∧ wp q g n' D' p' s' ∧ fr s s' [601] ∧ frp p p' [600] ∧ ext n D n' D' ∧ (s' 601 = s 601 + 2)) := by
  refine tt_k 4 (S' := (5, [some (.inr (.inl 6)), some (.inl v)], [.inl (mi_shr v 8), .inr (.inl 6)], n, D, s, p, c)) rfl ?_
  have e1 := mi_shr_bd v 8
  have b2 : 0 ≤ (s 601) ∧ (s 601) ≤ 32768 := hS 601
  refine tt_cl (by omega) rfl (g_add6 (Zi := Zi) (q := q) (n := n) (D := D) (s := s) (p := p) (c := c) (by omega) hz (by omega) hS hC hW (mi_shr v 8) (by omega) (show (s 601) ≤ 32767 by omega)) ?_
  rintro _ _ ⟨n3, D4, s5, p6, c7, rfl, rfl, hS5, hC7, hW8, f9, g10, xe11, k12⟩
  show tt Zi d 110 (8, [some (.inr (.inl 6)), some (.inl v)], [], n3, D4, s5, p6, c7) _
  replace k12 : (s5 601) = (s 601) + 1 := k12
  have b13 : 0 ≤ (s5 601) ∧ (s5 601) ≤ 32768 := hS5 601
  refine tt_k 2 (S' := (10, [some (.inr (.inl 6)), some (.inl v)], [.inl v, .inr (.inl 6)], n3, D4, s5, p6, c7)) rfl ?_
  refine tt_cl (by omega) rfl (g_add6 (Zi := Zi) (q := q) (n := n3) (D := D4) (s := s5) (p := p6) (c := c7) (by omega) hz (by omega) hS5 hC7 hW8 v (by omega) (show (s5 601) ≤ 32767 by omega)) ?_
  rintro _ _ ⟨n14, D15, s16, p17, c18, rfl, rfl, hS16, hC18, hW19, f20, g21, xe22, k23⟩
  show tt Zi d 110 (13, [some (.inr (.inl 6)), some (.inl v)], [], n14, D15, s16, p17, c18) _
  replace k23 : (s16 601) = (s5 601) + 1 := k23
  have b24 : 0 ≤ (s16 601) ∧ (s16 601) ≤ 32768 := hS16 601
  exact tt_rtv rfl rfl ⟨n14, D15, s16, p17, c18, rfl, rfl, hS16, hC18, hW19, (fr_tr (fr_tr fr_rf f9 (by decide)) f20 (by decide)), (frp_tr (frp_tr frp_rf g10 (by decide)) g21 (by decide)), (ext_tr (ext_tr ext_rf xe11) xe22), by show (s16 601) = s 601 + 2; omega⟩
set_option maxRecDepth 100000 in
set_option maxHeartbeats 4000000 in
theorem g_addMark6 {g : Nat → Int} {Zi : Nat → Option (Nat × (Nat → Int))} {d n q : Nat} {D : Nat → Nat × Nat} {s : Nat → Int} {p : Nat → Nat} {c : Nat → Nat → Int} (hd : 2 ≤ d) (hz : zk Zi) (hq : q + 4 ≤ 400000) (hS : bS s) (hC : bC D c) (hW : wp q g n D p s) (v : Int) (b_v : -2147483648 ≤ v ∧ v ≤ 2147483647) (hp0 : s 601 ≤ 32766) : tt Zi d 108 (0, [some (.inr (.inl 6)), some (.inl v)], [], n, D, s, p, c) (fun R H => ∃ (n' : Nat) (D' : Nat → Nat × Nat) (s' : Nat → Int) (p' : Nat → Nat) (c' : Nat → Nat → Int), R = .inl none ∧ H = (n', D', s', p', c') ∧ bS s' ∧ bC D' c' ∧ wp q g n' D' p' s' ∧ fr s s' [601] ∧ frp p p' [600] ∧ ext n D n' D' ∧ (s' 601 = s 601 + 2)) := by
  refine tt_k 2 (S' := (4, [some (.inr (.inl 6)), some (.inl v)], [.inl 255, .inr (.inl 6)], n, D, s, p, c)) rfl ?_
  have b1 : 0 ≤ (s 601) ∧ (s 601) ≤ 32768 := hS 601
  refine tt_cl (by omega) rfl (g_add6 (Zi := Zi) (q := q) (n := n) (D := D) (s := s) (p := p) (c := c) (by omega) hz (by omega) hS hC hW 255 (by omega) (show (s 601) ≤ 32767 by omega)) ?_
  rintro _ _ ⟨n2, D3, s4, p5, c6, rfl, rfl, hS4, hC6, hW7, f8, g9, xe10, k11⟩
  show tt Zi d 108 (7, [some (.inr (.inl 6)), some (.inl v)], [], n2, D3, s4, p5, c6) _
  replace k11 : (s4 601) = (s 601) + 1 := k11
  have b12 : 0 ≤ (s4 601) ∧ (s4 601) ≤ 32768 := hS4 601
  refine tt_k 2 (S' := (9, [some (.inr (.inl 6)), some (.inl v)], [.inl v, .inr (.inl 6)], n2, D3, s4, p5, c6)) rfl ?_
  refine tt_cl (by omega) rfl (g_add6 (Zi := Zi) (q := q) (n := n2) (D := D3) (s := s4) (p := p5) (c := c6) (by omega) hz (by omega) hS4 hC6 hW7 v (by omega) (show (s4 601) ≤ 32767 by omega)) ?_
  rintro _ _ ⟨n13, D14, s15, p16, c17, rfl, rfl, hS15, hC17, hW18, f19, g20, xe21, k22⟩
  show tt Zi d 108 (12, [some (.inr (.inl 6)), some (.inl v)], [], n13, D14, s15, p16, c17) _
  replace k22 : (s15 601) = (s4 601) + 1 := k22
  have b23 : 0 ≤ (s15 601) ∧ (s15 601) ≤ 32768 := hS15 601
  exact tt_rtv rfl rfl ⟨n13, D14, s15, p16, c17, rfl, rfl, hS15, hC17, hW18, (fr_tr (fr_tr fr_rf f8 (by decide)) f19 (by decide)), (frp_tr (frp_tr frp_rf g9 (by decide)) g20 (by decide)), (ext_tr (ext_tr ext_rf xe10) xe21), by show (s15 601) = s 601 + 2; omega⟩
set_option maxRecDepth 100000 in
set_option maxHeartbeats 4000000 in
theorem g_addFour6 {g : Nat → Int} {Zi : Nat → Option (Nat × (Nat → Int))} {d n q : Nat} {D : Nat → Nat × Nat} {s : Nat → Int} {p : Nat → Nat} {c : Nat → Nat → Int} (hd : 3 ≤ d) (hz : zk Zi) (hq : q + 6 ≤ 400000) (hS : bS s) (hC : bC D c) (hW : wp q g n D p s) (v : Int) (b_v : -2147483648 ≤ v ∧ v ≤ 2147483647) (hp0 : s 601 ≤ 32764) : tt Zi d 119 (0, [some (.inr (.inl 6)), some (.inl v)], [], n, D, s, p, c) (fun R H => ∃ (n' : Nat) (D' : Nat → Nat × Nat) (s' : Nat → Int) (p' : Nat → Nat) (c' : Nat → Nat → Int), R = .inl none ∧ H = (n', D', s', p', c') ∧ bS s' ∧ bC D' c' ∧ wp q g n' D' p' s' ∧ fr s s' [601] ∧ frp p p' [600] ∧ ext n D n' D' ∧ (s' 601 = s 601 + 4)) := by
  refine tt_k 4 (S' := (5, [some (.inr (.inl 6)), some (.inl v)], [.inl (mi_shr v 16), .inr (.inl 6)], n, D, s, p, c)) rfl ?_
  have e1 := mi_shr_bd v 16
  have b2 : 0 ≤ (s 601) ∧ (s 601) ≤ 32768 := hS 601
  refine tt_cl (by omega) rfl (g_addTwo6 (Zi := Zi) (q := q) (n := n) (D := D) (s := s) (p := p) (c := c) (by omega) hz (by omega) hS hC hW (mi_shr v 16) (by omega) (show (s 601) ≤ 32766 by omega)) ?_
  rintro _ _ ⟨n3, D4, s5, p6, c7, rfl, rfl, hS5, hC7, hW8, f9, g10, xe11, k12⟩
  show tt Zi d 119 (8, [some (.inr (.inl 6)), some (.inl v)], [], n3, D4, s5, p6, c7) _
  replace k12 : (s5 601) = (s 601) + 2 := k12
  have b13 : 0 ≤ (s5 601) ∧ (s5 601) ≤ 32768 := hS5 601
  refine tt_k 2 (S' := (10, [some (.inr (.inl 6)), some (.inl v)], [.inl v, .inr (.inl 6)], n3, D4, s5, p6, c7)) rfl ?_
  refine tt_cl (by omega) rfl (g_addTwo6 (Zi := Zi) (q := q) (n := n3) (D := D4) (s := s5) (p := p6) (c := c7) (by omega) hz (by omega) hS5 hC7 hW8 v (by omega) (show (s5 601) ≤ 32766 by omega)) ?_
  rintro _ _ ⟨n14, D15, s16, p17, c18, rfl, rfl, hS16, hC18, hW19, f20, g21, xe22, k23⟩
  show tt Zi d 119 (13, [some (.inr (.inl 6)), some (.inl v)], [], n14, D15, s16, p17, c18) _
  replace k23 : (s16 601) = (s5 601) + 2 := k23
  have b24 : 0 ≤ (s16 601) ∧ (s16 601) ≤ 32768 := hS16 601
  exact tt_rtv rfl rfl ⟨n14, D15, s16, p17, c18, rfl, rfl, hS16, hC18, hW19, (fr_tr (fr_tr fr_rf f9 (by decide)) f20 (by decide)), (frp_tr (frp_tr frp_rf g10 (by decide)) g21 (by decide)), (ext_tr (ext_tr ext_rf xe11) xe22), by show (s16 601) = s 601 + 4; omega⟩
set_option maxRecDepth 100000 in
set_option maxHeartbeats 4000000 in
theorem g_copy {g : Nat → Int} {Zi : Nat → Option (Nat × (Nat → Int))} {d n q : Nat} {D : Nat → Nat × Nat} {s : Nat → Int} {p : Nat → Nat} {c : Nat → Nat → Int} (hd : 1 ≤ d) (hz : zk Zi) (hq : q + 2 ≤ 400000) (hS : bS s) (hC : bC D c) (hW : wp q g n D p s) (hp0 : s 401 ≤ 32768) : tt Zi d 126 (0, [some (.inr (.inl 6)), some (.inr (.inl 4))], [], n, D, s, p, c) (fun R H => ∃ (n' : Nat) (D' : Nat → Nat × Nat) (s' : Nat → Int) (p' : Nat → Nat) (c' : Nat → Nat → Int), R = .inl none ∧ H = (n', D', s', p', c') ∧ bS s' ∧ bC D' c' ∧ wp q g n' D' p' s' ∧ fr s s' [601] ∧ frp p p' [600] ∧ ext n D n' D' ∧ (s' 601 = s 401)) := by
  have b1 := wp_l4 hW
  have b2 := wp_l6 hW
  have hc4 := hW.c4
  have hc6 := hW.c6
  have b3 : 0 ≤ (s 401) ∧ (s 401) ≤ 262144 := hS 401
  refine tt_k 2 (S' := (4, [some (.inr (.inl 6)), some (.inr (.inl 4))], [.inr (.inl (p 600))], n, D, s, p, c)) rfl ?_
  refine tt_len (m := (ln D (p 600))) rfl ((hW).r6.1) rfl ?_
  show tt Zi d 126 (5, [some (.inr (.inl 6)), some (.inr (.inl 4))], [.inl (((ln D (p 600)) : Int))], n, D, s, p, c) _
  refine tt_k 2 (S' := (9, [some (.inr (.inl 6)), some (.inr (.inl 4))], [.inl (s 401), .inl (((ln D (p 600)) : Int))], n, D, s, p, c)) rfl ?_
  refine tb_ge (x := ((ln D (p 600)) : Int)) (y := (s 401)) rfl rfl (by omega) (fun h4 => ?_) (fun h4 => ?_)
  · show tt Zi d 126 (23, [some (.inr (.inl 6)), some (.inr (.inl 4))], [], n, D, s, p, c) _
    refine tt_k 8 (S' := (37, [some (.inr (.inl 6)), some (.inr (.inl 4))], [.inl (s 401), .inl 0, .inr (.inl (p 600)), .inl 0, .inr (.inl (p 400))], n, D, s, p, c)) rfl ?_
    refine tt_cpb (a := (p 400)) (b := (p 600)) (t := 1) (n0 := (ln D (p 400))) (n1 := (ln D (p 600))) (lo := -128) (hi := 127) (k := (s 401)) (dp := 0) (sp := 0) rfl rfl ((hW).r4.1) ((hW).r6.1) (by decide) (Nat.le_of_ble_eq_true rfl) (by omega) hC ((hW).r4.2) ((hW).r6.2) (Or.inr ⟨rfl, rfl⟩) ?_
    intro c5 hC5
    show tt Zi d 126 (40, [some (.inr (.inl 6)), some (.inr (.inl 4))], [], n, D, s, p, c5) _
    refine tt_k 4 (S' := (48, [some (.inr (.inl 6)), some (.inr (.inl 4))], [], n, D, (us s 601 (s 401)), p, c5)) rfl ?_
    exact tt_rtv rfl rfl ⟨n, D, (us s 601 (s 401)), p, c5, rfl, rfl, (bS_us hS (show 0 ≤ (s 401) ∧ (s 401) ≤ 32768 by omega)), hC5, (wp_c6 hW (show (s 401) ≤ (ln D (p 600) : Int) by omega)), (fr_us (by decide) fr_rf), frp_rf, ext_rf, by show (s 401) = s 401; omega⟩
  · show tt Zi d 126 (12, [some (.inr (.inl 6)), some (.inr (.inl 4))], [], n, D, s, p, c) _
    refine tt_k 3 (S' := (17, [some (.inr (.inl 6)), some (.inr (.inl 4))], [.inr (.inl (p 400)), .inr (.inl 6)], n, D, s, p, c)) rfl ?_
    refine tt_len (m := (ln D (p 400))) rfl ((hW).r4.1) rfl ?_
    show tt Zi d 126 (18, [some (.inr (.inl 6)), some (.inr (.inl 4))], [.inl (((ln D (p 400)) : Int)), .inr (.inl 6)], n, D, s, p, c) _
    have hn6 := wp_n hW (by omega)
    refine tt_nwb (x := ((ln D (p 400)) : Int)) (k := 1) rfl rfl (by omega) hC ?_
    intro c7 hC7
    show tt Zi d 126 (20, [some (.inr (.inl 6)), some (.inr (.inl 4))], [.inr (.inl (48 + n)), .inr (.inl 6)], (n + 1), (ud D (48 + n) (1, (((ln D (p 400)) : Int)).toNat)), s, p, c7) _
    refine tt_k 9 (S' := (37, [some (.inr (.inl 6)), some (.inr (.inl 4))], [.inl (s 401), .inl 0, .inr (.inl (48 + n)), .inl 0, .inr (.inl (p 400))], (n + 1), (ud D (48 + n) (1, (((ln D (p 400)) : Int)).toNat)), s, (up p 600 (48 + n)), c7)) rfl ?_
    refine tt_cpb (a := (p 400)) (b := (48 + n)) (t := 1) (n0 := (ln D (p 400))) (n1 := (((ln D (p 400)) : Int)).toNat) (lo := -128) (hi := 127) (k := (s 401)) (dp := 0) (sp := 0) rfl rfl (ext_arr ext_1 (hW).r4.1) (arr_nw (by omega)) (by decide) (Nat.le_of_ble_eq_true rfl) (by omega) hC7 (ext_byt ext_1 (hW).r4).2 lo_nw1 (Or.inr ⟨rfl, rfl⟩) ?_
    intro c8 hC8
    show tt Zi d 126 (40, [some (.inr (.inl 6)), some (.inr (.inl 4))], [], (n + 1), (ud D (48 + n) (1, (((ln D (p 400)) : Int)).toNat)), s, (up p 600 (48 + n)), c8) _
    refine tt_k 4 (S' := (48, [some (.inr (.inl 6)), some (.inr (.inl 4))], [], (n + 1), (ud D (48 + n) (1, (((ln D (p 400)) : Int)).toNat)), (us s 601 (s 401)), (up p 600 (48 + n)), c8)) rfl ?_
    exact tt_rtv rfl rfl ⟨(n + 1), (ud D (48 + n) (1, (((ln D (p 400)) : Int)).toNat)), (us s 601 (s 401)), (up p 600 (48 + n)), c8, rfl, rfl, (bS_us hS (show 0 ≤ (s 401) ∧ (s 401) ≤ 32768 by omega)), hC8, (wp_c6 (wp_cp6 hW (by omega) (by omega) (by omega)) (show (s 401) ≤ (ln (ud D (48 + n) (1, (((ln D (p 400)) : Int)).toNat)) (48 + n) : Int) by rw [ln_nw]; omega)), (fr_us (by decide) fr_rf), (frp_up (by decide) frp_rf), (ext_tr ext_rf ext_1), by show (s 401) = s 401; omega⟩
set_option maxRecDepth 100000 in
set_option maxHeartbeats 4000000 in
theorem g_reshape1 {g : Nat → Int} {Zi : Nat → Option (Nat × (Nat → Int))} {d n q : Nat} {D : Nat → Nat × Nat} {s : Nat → Int} {p : Nat → Nat} {c : Nat → Nat → Int} (hd : 1 ≤ d) (hz : zk Zi) (hq : q + 2 ≤ 400000) (hS : bS s) (hC : bC D c) (hW : wp q g n D p s) (wi : Int) (hi_ : Int) (pl_ : Int) (dp_ : Int) (b_wi : 1 ≤ wi ∧ wi ≤ 64) (b_hi_ : 1 ≤ hi_ ∧ hi_ ≤ 64) (b_pl_ : 1 ≤ pl_ ∧ pl_ ≤ 3) (b_dp_ : 2 ≤ dp_ ∧ dp_ ≤ 16) : tt Zi d 12 (0, [some (.inr (.inl 1)), some (.inl wi), some (.inl hi_), some (.inl pl_), some (.inl dp_), none], [], n, D, s, p, c) (fun R H => ∃ (n' : Nat) (D' : Nat → Nat × Nat) (s' : Nat → Int) (p' : Nat → Nat) (c' : Nat → Nat → Int), R = .inl none ∧ H = (n', D', s', p', c') ∧ bS s' ∧ bC D' c' ∧ wp q (us (us (us (us g 100 wi) 101 hi_) 102 pl_) 103 dp_) n' D' p' s' ∧ fr s s' [100, 101, 102, 103] ∧ frp p p' [104] ∧ ext n D n' D' ∧ (s' 100 = wi) ∧ (s' 101 = hi_) ∧ (s' 102 = pl_) ∧ (s' 103 = dp_)) := by
  have b1 : ln D (p 104) ≤ 12288 := (hW).p1.2.2
  have hm1 := mul_bd (e := wi) (st := hi_) (a := 64) (b := 64) (by omega) (by omega) (by omega) (by omega) (by omega)
  have hm2 := mul_bd (e := wi * hi_) (st := pl_) (a := 4096) (b := 3) (by omega) (by omega) (by omega) (by omega) (by omega)
  have hm3 : 0 ≤ wi * hi_ * pl_ := Int.mul_nonneg (Int.mul_nonneg (by omega) (by omega)) (by omega)
  refine tt_k 14 (S' := (23, [some (.inr (.inl 1)), some (.inl wi), some (.inl hi_), some (.inl pl_), some (.inl dp_), none], [.inl hi_, .inl wi], n, D, (us (us (us (us s 100 wi) 101 hi_) 102 pl_) 103 dp_), p, c)) rfl ?_
  refine tt_k 6 (S' := (32, [some (.inr (.inl 1)), some (.inl wi), some (.inl hi_), some (.inl pl_), some (.inl dp_), some (.inl ((wi * hi_) * pl_))], [.inr (.inl (p 104))], n, D, (us (us (us (us s 100 wi) 101 hi_) 102 pl_) 103 dp_), p, c)) rfl ?_
  refine tt_len (m := (ln D (p 104))) rfl ((hW).p1.1) rfl ?_
  show tt Zi d 12 (33, [some (.inr (.inl 1)), some (.inl wi), some (.inl hi_), some (.inl pl_), some (.inl dp_), some (.inl ((wi * hi_) * pl_))], [.inl (((ln D (p 104)) : Int))], n, D, (us (us (us (us s 100 wi) 101 hi_) 102 pl_) 103 dp_), p, c) _
  refine tt_k 1 (S' := (35, [some (.inr (.inl 1)), some (.inl wi), some (.inl hi_), some (.inl pl_), some (.inl dp_), some (.inl ((wi * hi_) * pl_))], [.inl ((wi * hi_) * pl_), .inl (((ln D (p 104)) : Int))], n, D, (us (us (us (us s 100 wi) 101 hi_) 102 pl_) 103 dp_), p, c)) rfl ?_
  refine tb_ge (x := ((ln D (p 104)) : Int)) (y := ((wi * hi_) * pl_)) rfl rfl (by omega) (fun h2 => ?_) (fun h2 => ?_)
  · show tt Zi d 12 (65, [some (.inr (.inl 1)), some (.inl wi), some (.inl hi_), some (.inl pl_), some (.inl dp_), some (.inl ((wi * hi_) * pl_))], [], n, D, (us (us (us (us s 100 wi) 101 hi_) 102 pl_) 103 dp_), p, c) _
    refine tt_k 3 (S' := (70, [some (.inr (.inl 1)), some (.inl wi), some (.inl hi_), some (.inl pl_), some (.inl dp_), some (.inl ((wi * hi_) * pl_))], [.inl 0, .inr (.inl (p 104))], n, D, (us (us (us (us s 100 wi) 101 hi_) 102 pl_) 103 dp_), p, c)) rfl ?_
    refine tt_cl (by omega) rfl (g_fill (A := (p 104)) (m := (ln D (p 104))) (s := (us (us (us (us s 100 wi) 101 hi_) 102 pl_) 103 dp_)) (p := p) ((hW).p1.1) (by omega) (by rw [(show bC_lo D (p 104) = 0 ∧ bC_hi D (p 104) = 65535 from ((hW).p1.2.1)).1, (show bC_lo D (p 104) = 0 ∧ bC_hi D (p 104) = 65535 from ((hW).p1.2.1)).2]; decide) hC) ?_
    rintro _ _ ⟨c3, rfl, rfl, hC3⟩
    show tt Zi d 12 (73, [some (.inr (.inl 1)), some (.inl wi), some (.inl hi_), some (.inl pl_), some (.inl dp_), some (.inl ((wi * hi_) * pl_))], [], n, D, (us (us (us (us s 100 wi) 101 hi_) 102 pl_) 103 dp_), p, c3) _
    exact tt_rtv rfl rfl ⟨n, D, (us (us (us (us s 100 wi) 101 hi_) 102 pl_) 103 dp_), p, c3, rfl, rfl, (bS_us (bS_us (bS_us (bS_us hS (show 1 ≤ wi ∧ wi ≤ 64 by omega)) (show 1 ≤ hi_ ∧ hi_ ≤ 64 by omega)) (show 1 ≤ pl_ ∧ pl_ ≤ 3 by omega)) (show 2 ≤ dp_ ∧ dp_ ≤ 16 by omega)), hC3, (wp_rz1 hW (by omega)), (fr_us (by decide) (fr_us (by decide) (fr_us (by decide) (fr_us (by decide) fr_rf)))), frp_rf, ext_rf, rfl, rfl, rfl, rfl⟩
  · show tt Zi d 12 (38, [some (.inr (.inl 1)), some (.inl wi), some (.inl hi_), some (.inl pl_), some (.inl dp_), some (.inl ((wi * hi_) * pl_))], [], n, D, (us (us (us (us s 100 wi) 101 hi_) 102 pl_) 103 dp_), p, c) _
    refine tt_k 6 (S' := (49, [some (.inr (.inl 1)), some (.inl wi), some (.inl hi_), some (.inl pl_), some (.inl dp_), some (.inl ((wi * hi_) * pl_))], [.inr (.inl (p 104)), .inl 2, .inl ((wi * hi_) * pl_), .inl 12288, .inr (.inl 1)], n, D, (us (us (us (us s 100 wi) 101 hi_) 102 pl_) 103 dp_), p, c)) rfl ?_
    refine tt_len (m := (ln D (p 104))) rfl ((hW).p1.1) rfl ?_
    show tt Zi d 12 (50, [some (.inr (.inl 1)), some (.inl wi), some (.inl hi_), some (.inl pl_), some (.inl dp_), some (.inl ((wi * hi_) * pl_))], [.inl (((ln D (p 104)) : Int)), .inl 2, .inl ((wi * hi_) * pl_), .inl 12288, .inr (.inl 1)], n, D, (us (us (us (us s 100 wi) 101 hi_) 102 pl_) 103 dp_), p, c) _
    refine tt_k 1 (S' := (51, [some (.inr (.inl 1)), some (.inl wi), some (.inl hi_), some (.inl pl_), some (.inl dp_), some (.inl ((wi * hi_) * pl_))], [.inl ((2 * ((ln D (p 104)) : Int))), .inl ((wi * hi_) * pl_), .inl 12288, .inr (.inl 1)], n, D, (us (us (us (us s 100 wi) 101 hi_) 102 pl_) 103 dp_), p, c)) rfl ?_
    refine tt_max (k := 0) (x := ((wi * hi_) * pl_)) (y := (2 * ((ln D (p 104)) : Int))) rfl rfl (Nat.le_of_ble_eq_true rfl) (by omega) ?_
    refine tt_min (k := 0) (x := 12288) (y := (max ((wi * hi_) * pl_) (2 * ((ln D (p 104)) : Int)))) rfl rfl (Nat.le_of_ble_eq_true rfl) (by omega) ?_
    have hn4 := wp_n hW (by omega)
    refine tt_nwb (x := (min 12288 (max ((wi * hi_) * pl_) (2 * ((ln D (p 104)) : Int))))) (k := 0) rfl rfl (by omega) hC ?_
    intro c5 hC5
    show tt Zi d 12 (59, [some (.inr (.inl 1)), some (.inl wi), some (.inl hi_), some (.inl pl_), some (.inl dp_), some (.inl ((wi * hi_) * pl_))], [.inr (.inl (48 + n)), .inr (.inl 1)], (n + 1), (ud D (48 + n) (0, ((min 12288 (max ((wi * hi_) * pl_) (2 * ((ln D (p 104)) : Int))))).toNat)), (us (us (us (us s 100 wi) 101 hi_) 102 pl_) 103 dp_), p, c5) _
    refine tt_k 2 (S' := (73, [some (.inr (.inl 1)), some (.inl wi), some (.inl hi_), some (.inl pl_), some (.inl dp_), some (.inl ((wi * hi_) * pl_))], [], (n + 1), (ud D (48 + n) (0, ((min 12288 (max ((wi * hi_) * pl_) (2 * ((ln D (p 104)) : Int))))).toNat)), (us (us (us (us s 100 wi) 101 hi_) 102 pl_) 103 dp_), (up p 104 (48 + n)), c5)) rfl ?_
    exact tt_rtv rfl rfl ⟨(n + 1), (ud D (48 + n) (0, ((min 12288 (max ((wi * hi_) * pl_) (2 * ((ln D (p 104)) : Int))))).toNat)), (us (us (us (us s 100 wi) 101 hi_) 102 pl_) 103 dp_), (up p 104 (48 + n)), c5, rfl, rfl, (bS_us (bS_us (bS_us (bS_us hS (show 1 ≤ wi ∧ wi ≤ 64 by omega)) (show 1 ≤ hi_ ∧ hi_ ≤ 64 by omega)) (show 1 ≤ pl_ ∧ pl_ ≤ 3 by omega)) (show 2 ≤ dp_ ∧ dp_ ≤ 16 by omega)), hC5, (wp_rs1 hW (by omega) (by omega) (by omega) (by omega) (by omega) (by omega)), (fr_us (by decide) (fr_us (by decide) (fr_us (by decide) (fr_us (by decide) fr_rf)))), (frp_up (by decide) frp_rf), (ext_tr ext_rf ext_1), rfl, rfl, rfl, rfl⟩
set_option maxRecDepth 100000 in
set_option maxHeartbeats 4000000 in
theorem g_reshape25 {g : Nat → Int} {Zi : Nat → Option (Nat × (Nat → Int))} {d n q : Nat} {D : Nat → Nat × Nat} {s : Nat → Int} {p : Nat → Nat} {c : Nat → Nat → Int} (hd : 1 ≤ d) (hz : zk Zi) (hq : q + 2 ≤ 400000) (hS : bS s) (hC : bC D c) (hW : wp q g n D p s) (wi : Int) (hi_ : Int) (pl_ : Int) (dp_ : Int) (b_wi : 1 ≤ wi ∧ wi ≤ 64) (b_hi_ : 1 ≤ hi_ ∧ hi_ ≤ 64) (b_pl_ : 1 ≤ pl_ ∧ pl_ ≤ 3) (b_dp_ : 2 ≤ dp_ ∧ dp_ ≤ 16) : tt Zi d 12 (0, [some (.inr (.inl 25)), some (.inl wi), some (.inl hi_), some (.inl pl_), some (.inl dp_), none], [], n, D, s, p, c) (fun R H => ∃ (n' : Nat) (D' : Nat → Nat × Nat) (s' : Nat → Int) (p' : Nat → Nat) (c' : Nat → Nat → Int), R = .inl none ∧ H = (n', D', s', p', c') ∧ bS s' ∧ bC D' c' ∧ wp q g n' D' p' s' ∧ fr s s' [2500, 2501, 2502, 2503] ∧ frp p p' [2504] ∧ ext n D n' D' ∧ (s' 2500 = wi) ∧ (s' 2501 = hi_) ∧ (s' 2502 = pl_) ∧ (s' 2503 = dp_)) := by
  have b1 : ln D (p 2504) ≤ 12288 := (hW).p25.2.2
  have hm1 := mul_bd (e := wi) (st := hi_) (a := 64) (b := 64) (by omega) (by omega) (by omega) (by omega) (by omega)
  have hm2 := mul_bd (e := wi * hi_) (st := pl_) (a := 4096) (b := 3) (by omega) (by omega) (by omega) (by omega) (by omega)
  have hm3 : 0 ≤ wi * hi_ * pl_ := Int.mul_nonneg (Int.mul_nonneg (by omega) (by omega)) (by omega)
  refine tt_k 14 (S' := (23, [some (.inr (.inl 25)), some (.inl wi), some (.inl hi_), some (.inl pl_), some (.inl dp_), none], [.inl hi_, .inl wi], n, D, (us (us (us (us s 2500 wi) 2501 hi_) 2502 pl_) 2503 dp_), p, c)) rfl ?_
  refine tt_k 6 (S' := (32, [some (.inr (.inl 25)), some (.inl wi), some (.inl hi_), some (.inl pl_), some (.inl dp_), some (.inl ((wi * hi_) * pl_))], [.inr (.inl (p 2504))], n, D, (us (us (us (us s 2500 wi) 2501 hi_) 2502 pl_) 2503 dp_), p, c)) rfl ?_
  refine tt_len (m := (ln D (p 2504))) rfl ((hW).p25.1) rfl ?_
  show tt Zi d 12 (33, [some (.inr (.inl 25)), some (.inl wi), some (.inl hi_), some (.inl pl_), some (.inl dp_), some (.inl ((wi * hi_) * pl_))], [.inl (((ln D (p 2504)) : Int))], n, D, (us (us (us (us s 2500 wi) 2501 hi_) 2502 pl_) 2503 dp_), p, c) _
  refine tt_k 1 (S' := (35, [some (.inr (.inl 25)), some (.inl wi), some (.inl hi_), some (.inl pl_), some (.inl dp_), some (.inl ((wi * hi_) * pl_))], [.inl ((wi * hi_) * pl_), .inl (((ln D (p 2504)) : Int))], n, D, (us (us (us (us s 2500 wi) 2501 hi_) 2502 pl_) 2503 dp_), p, c)) rfl ?_
  refine tb_ge (x := ((ln D (p 2504)) : Int)) (y := ((wi * hi_) * pl_)) rfl rfl (by omega) (fun h2 => ?_) (fun h2 => ?_)
  · show tt Zi d 12 (65, [some (.inr (.inl 25)), some (.inl wi), some (.inl hi_), some (.inl pl_), some (.inl dp_), some (.inl ((wi * hi_) * pl_))], [], n, D, (us (us (us (us s 2500 wi) 2501 hi_) 2502 pl_) 2503 dp_), p, c) _
    refine tt_k 3 (S' := (70, [some (.inr (.inl 25)), some (.inl wi), some (.inl hi_), some (.inl pl_), some (.inl dp_), some (.inl ((wi * hi_) * pl_))], [.inl 0, .inr (.inl (p 2504))], n, D, (us (us (us (us s 2500 wi) 2501 hi_) 2502 pl_) 2503 dp_), p, c)) rfl ?_
    refine tt_cl (by omega) rfl (g_fill (A := (p 2504)) (m := (ln D (p 2504))) (s := (us (us (us (us s 2500 wi) 2501 hi_) 2502 pl_) 2503 dp_)) (p := p) ((hW).p25.1) (by omega) (by rw [(show bC_lo D (p 2504) = 0 ∧ bC_hi D (p 2504) = 65535 from ((hW).p25.2.1)).1, (show bC_lo D (p 2504) = 0 ∧ bC_hi D (p 2504) = 65535 from ((hW).p25.2.1)).2]; decide) hC) ?_
    rintro _ _ ⟨c3, rfl, rfl, hC3⟩
    show tt Zi d 12 (73, [some (.inr (.inl 25)), some (.inl wi), some (.inl hi_), some (.inl pl_), some (.inl dp_), some (.inl ((wi * hi_) * pl_))], [], n, D, (us (us (us (us s 2500 wi) 2501 hi_) 2502 pl_) 2503 dp_), p, c3) _
    exact tt_rtv rfl rfl ⟨n, D, (us (us (us (us s 2500 wi) 2501 hi_) 2502 pl_) 2503 dp_), p, c3, rfl, rfl, (bS_us (bS_us (bS_us (bS_us hS (show 0 ≤ wi ∧ wi ≤ 64 by omega)) (show 0 ≤ hi_ ∧ hi_ ≤ 64 by omega)) (show 0 ≤ pl_ ∧ pl_ ≤ 3 by omega)) (show 0 ≤ dp_ ∧ dp_ ≤ 16 by omega)), hC3, (wp_rz25 hW (by omega)), (fr_us (by decide) (fr_us (by decide) (fr_us (by decide) (fr_us (by decide) fr_rf)))), frp_rf, ext_rf, rfl, rfl, rfl, rfl⟩
  · show tt Zi d 12 (38, [some (.inr (.inl 25)), some (.inl wi), some (.inl hi_), some (.inl pl_), some (.inl dp_), some (.inl ((wi * hi_) * pl_))], [], n, D, (us (us (us (us s 2500 wi) 2501 hi_) 2502 pl_) 2503 dp_), p, c) _
    refine tt_k 6 (S' := (49, [some (.inr (.inl 25)), some (.inl wi), some (.inl hi_), some (.inl pl_), some (.inl dp_), some (.inl ((wi * hi_) * pl_))], [.inr (.inl (p 2504)), .inl 2, .inl ((wi * hi_) * pl_), .inl 12288, .inr (.inl 25)], n, D, (us (us (us (us s 2500 wi) 2501 hi_) 2502 pl_) 2503 dp_), p, c)) rfl ?_
    refine tt_len (m := (ln D (p 2504))) rfl ((hW).p25.1) rfl ?_
    show tt Zi d 12 (50, [some (.inr (.inl 25)), some (.inl wi), some (.inl hi_), some (.inl pl_), some (.inl dp_), some (.inl ((wi * hi_) * pl_))], [.inl (((ln D (p 2504)) : Int)), .inl 2, .inl ((wi * hi_) * pl_), .inl 12288, .inr (.inl 25)], n, D, (us (us (us (us s 2500 wi) 2501 hi_) 2502 pl_) 2503 dp_), p, c) _
    refine tt_k 1 (S' := (51, [some (.inr (.inl 25)), some (.inl wi), some (.inl hi_), some (.inl pl_), some (.inl dp_), some (.inl ((wi * hi_) * pl_))], [.inl ((2 * ((ln D (p 2504)) : Int))), .inl ((wi * hi_) * pl_), .inl 12288, .inr (.inl 25)], n, D, (us (us (us (us s 2500 wi) 2501 hi_) 2502 pl_) 2503 dp_), p, c)) rfl ?_
    refine tt_max (k := 0) (x := ((wi * hi_) * pl_)) (y := (2 * ((ln D (p 2504)) : Int))) rfl rfl (Nat.le_of_ble_eq_true rfl) (by omega) ?_
    refine tt_min (k := 0) (x := 12288) (y := (max ((wi * hi_) * pl_) (2 * ((ln D (p 2504)) : Int)))) rfl rfl (Nat.le_of_ble_eq_true rfl) (by omega) ?_
    have hn4 := wp_n hW (by omega)
    refine tt_nwb (x := (min 12288 (max ((wi * hi_) * pl_) (2 * ((ln D (p 2504)) : Int))))) (k := 0) rfl rfl (by omega) hC ?_
    intro c5 hC5
    show tt Zi d 12 (59, [some (.inr (.inl 25)), some (.inl wi), some (.inl hi_), some (.inl pl_), some (.inl dp_), some (.inl ((wi * hi_) * pl_))], [.inr (.inl (48 + n)), .inr (.inl 25)], (n + 1), (ud D (48 + n) (0, ((min 12288 (max ((wi * hi_) * pl_) (2 * ((ln D (p 2504)) : Int))))).toNat)), (us (us (us (us s 2500 wi) 2501 hi_) 2502 pl_) 2503 dp_), p, c5) _
    refine tt_k 2 (S' := (73, [some (.inr (.inl 25)), some (.inl wi), some (.inl hi_), some (.inl pl_), some (.inl dp_), some (.inl ((wi * hi_) * pl_))], [], (n + 1), (ud D (48 + n) (0, ((min 12288 (max ((wi * hi_) * pl_) (2 * ((ln D (p 2504)) : Int))))).toNat)), (us (us (us (us s 2500 wi) 2501 hi_) 2502 pl_) 2503 dp_), (up p 2504 (48 + n)), c5)) rfl ?_
    exact tt_rtv rfl rfl ⟨(n + 1), (ud D (48 + n) (0, ((min 12288 (max ((wi * hi_) * pl_) (2 * ((ln D (p 2504)) : Int))))).toNat)), (us (us (us (us s 2500 wi) 2501 hi_) 2502 pl_) 2503 dp_), (up p 2504 (48 + n)), c5, rfl, rfl, (bS_us (bS_us (bS_us (bS_us hS (show 0 ≤ wi ∧ wi ≤ 64 by omega)) (show 0 ≤ hi_ ∧ hi_ ≤ 64 by omega)) (show 0 ≤ pl_ ∧ pl_ ≤ 3 by omega)) (show 0 ≤ dp_ ∧ dp_ ≤ 16 by omega)), hC5, (wp_rs25 hW (by omega) (by omega) (by omega) (by omega) (by omega) (by omega)), (fr_us (by decide) (fr_us (by decide) (fr_us (by decide) (fr_us (by decide) fr_rf)))), (frp_up (by decide) frp_rf), (ext_tr ext_rf ext_1), rfl, rfl, rfl, rfl⟩
set_option maxRecDepth 100000 in
set_option maxHeartbeats 4000000 in
theorem g_reshape27 {g : Nat → Int} {Zi : Nat → Option (Nat × (Nat → Int))} {d n q : Nat} {D : Nat → Nat × Nat} {s : Nat → Int} {p : Nat → Nat} {c : Nat → Nat → Int} (hd : 1 ≤ d) (hz : zk Zi) (hq : q + 2 ≤ 400000) (hS : bS s) (hC : bC D c) (hW : wp q g n D p s) (wi : Int) (hi_ : Int) (pl_ : Int) (dp_ : Int) (b_wi : 1 ≤ wi ∧ wi ≤ 64) (b_hi_ : 1 ≤ hi_ ∧ hi_ ≤ 64) (b_pl_ : 1 ≤ pl_ ∧ pl_ ≤ 3) (b_dp_ : 2 ≤ dp_ ∧ dp_ ≤ 16) : tt Zi d 12 (0, [some (.inr (.inl 27)), some (.inl wi), some (.inl hi_), some (.inl pl_), some (.inl dp_), none], [], n, D, s, p, c) (fun R H => ∃ (n' : Nat) (D' : Nat → Nat × Nat) (s' : Nat → Int) (p' : Nat → Nat) (c' : Nat → Nat → Int), R = .inl none ∧ H = (n', D', s', p', c') ∧ bS s' ∧ bC D' c' ∧ wp q g n' D' p' s' ∧ fr s s' [2700, 2701, 2702, 2703] ∧ frp p p' [2704] ∧ ext n D n' D' ∧ (s' 2700 = wi) ∧ (s' 2701 = hi_) ∧ (s' 2702 = pl_) ∧ (s' 2703 = dp_)) := by
  have b1 : ln D (p 2704) ≤ 12288 := (hW).p27.2.2
  have hm1 := mul_bd (e := wi) (st := hi_) (a := 64) (b := 64) (by omega) (by omega) (by omega) (by omega) (by omega)
  have hm2 := mul_bd (e := wi * hi_) (st := pl_) (a := 4096) (b := 3) (by omega) (by omega) (by omega) (by omega) (by omega)
  have hm3 : 0 ≤ wi * hi_ * pl_ := Int.mul_nonneg (Int.mul_nonneg (by omega) (by omega)) (by omega)
  refine tt_k 14 (S' := (23, [some (.inr (.inl 27)), some (.inl wi), some (.inl hi_), some (.inl pl_), some (.inl dp_), none], [.inl hi_, .inl wi], n, D, (us (us (us (us s 2700 wi) 2701 hi_) 2702 pl_) 2703 dp_), p, c)) rfl ?_
  refine tt_k 6 (S' := (32, [some (.inr (.inl 27)), some (.inl wi), some (.inl hi_), some (.inl pl_), some (.inl dp_), some (.inl ((wi * hi_) * pl_))], [.inr (.inl (p 2704))], n, D, (us (us (us (us s 2700 wi) 2701 hi_) 2702 pl_) 2703 dp_), p, c)) rfl ?_
  refine tt_len (m := (ln D (p 2704))) rfl ((hW).p27.1) rfl ?_
  show tt Zi d 12 (33, [some (.inr (.inl 27)), some (.inl wi), some (.inl hi_), some (.inl pl_), some (.inl dp_), some (.inl ((wi * hi_) * pl_))], [.inl (((ln D (p 2704)) : Int))], n, D, (us (us (us (us s 2700 wi) 2701 hi_) 2702 pl_) 2703 dp_), p, c) _
  refine tt_k 1 (S' := (35, [some (.inr (.inl 27)), some (.inl wi), some (.inl hi_), some (.inl pl_), some (.inl dp_), some (.inl ((wi * hi_) * pl_))], [.inl ((wi * hi_) * pl_), .inl (((ln D (p 2704)) : Int))], n, D, (us (us (us (us s 2700 wi) 2701 hi_) 2702 pl_) 2703 dp_), p, c)) rfl ?_
  refine tb_ge (x := ((ln D (p 2704)) : Int)) (y := ((wi * hi_) * pl_)) rfl rfl (by omega) (fun h2 => ?_) (fun h2 => ?_)
  · show tt Zi d 12 (65, [some (.inr (.inl 27)), some (.inl wi), some (.inl hi_), some (.inl pl_), some (.inl dp_), some (.inl ((wi * hi_) * pl_))], [], n, D, (us (us (us (us s 2700 wi) 2701 hi_) 2702 pl_) 2703 dp_), p, c) _
    refine tt_k 3 (S' := (70, [some (.inr (.inl 27)), some (.inl wi), some (.inl hi_), some (.inl pl_), some (.inl dp_), some (.inl ((wi * hi_) * pl_))], [.inl 0, .inr (.inl (p 2704))], n, D, (us (us (us (us s 2700 wi) 2701 hi_) 2702 pl_) 2703 dp_), p, c)) rfl ?_
    refine tt_cl (by omega) rfl (g_fill (A := (p 2704)) (m := (ln D (p 2704))) (s := (us (us (us (us s 2700 wi) 2701 hi_) 2702 pl_) 2703 dp_)) (p := p) ((hW).p27.1) (by omega) (by rw [(show bC_lo D (p 2704) = 0 ∧ bC_hi D (p 2704) = 65535 from ((hW).p27.2.1)).1, (show bC_lo D (p 2704) = 0 ∧ bC_hi D (p 2704) = 65535 from ((hW).p27.2.1)).2]; decide) hC) ?_
    rintro _ _ ⟨c3, rfl, rfl, hC3⟩
    show tt Zi d 12 (73, [some (.inr (.inl 27)), some (.inl wi), some (.inl hi_), some (.inl pl_), some (.inl dp_), some (.inl ((wi * hi_) * pl_))], [], n, D, (us (us (us (us s 2700 wi) 2701 hi_) 2702 pl_) 2703 dp_), p, c3) _
    exact tt_rtv rfl rfl ⟨n, D, (us (us (us (us s 2700 wi) 2701 hi_) 2702 pl_) 2703 dp_), p, c3, rfl, rfl, (bS_us (bS_us (bS_us (bS_us hS (show 0 ≤ wi ∧ wi ≤ 64 by omega)) (show 0 ≤ hi_ ∧ hi_ ≤ 64 by omega)) (show 0 ≤ pl_ ∧ pl_ ≤ 3 by omega)) (show 0 ≤ dp_ ∧ dp_ ≤ 16 by omega)), hC3, (wp_rz27 hW (by omega)), (fr_us (by decide) (fr_us (by decide) (fr_us (by decide) (fr_us (by decide) fr_rf)))), frp_rf, ext_rf, rfl, rfl, rfl, rfl⟩
  · show tt Zi d 12 (38, [some (.inr (.inl 27)), some (.inl wi), some (.inl hi_), some (.inl pl_), some (.inl dp_), some (.inl ((wi * hi_) * pl_))], [], n, D, (us (us (us (us s 2700 wi) 2701 hi_) 2702 pl_) 2703 dp_), p, c) _
    refine tt_k 6 (S' := (49, [some (.inr (.inl 27)), some (.inl wi), some (.inl hi_), some (.inl pl_), some (.inl dp_), some (.inl ((wi * hi_) * pl_))], [.inr (.inl (p 2704)), .inl 2, .inl ((wi * hi_) * pl_), .inl 12288, .inr (.inl 27)], n, D, (us (us (us (us s 2700 wi) 2701 hi_) 2702 pl_) 2703 dp_), p, c)) rfl ?_
    refine tt_len (m := (ln D (p 2704))) rfl ((hW).p27.1) rfl ?_
    show tt Zi d 12 (50, [some (.inr (.inl 27)), some (.inl wi), some (.inl hi_), some (.inl pl_), some (.inl dp_), some (.inl ((wi * hi_) * pl_))], [.inl (((ln D (p 2704)) : Int)), .inl 2, .inl ((wi * hi_) * pl_), .inl 12288, .inr (.inl 27)], n, D, (us (us (us (us s 2700 wi) 2701 hi_) 2702 pl_) 2703 dp_), p, c) _
    refine tt_k 1 (S' := (51, [some (.inr (.inl 27)), some (.inl wi), some (.inl hi_), some (.inl pl_), some (.inl dp_), some (.inl ((wi * hi_) * pl_))], [.inl ((2 * ((ln D (p 2704)) : Int))), .inl ((wi * hi_) * pl_), .inl 12288, .inr (.inl 27)], n, D, (us (us (us (us s 2700 wi) 2701 hi_) 2702 pl_) 2703 dp_), p, c)) rfl ?_
    refine tt_max (k := 0) (x := ((wi * hi_) * pl_)) (y := (2 * ((ln D (p 2704)) : Int))) rfl rfl (Nat.le_of_ble_eq_true rfl) (by omega) ?_
    refine tt_min (k := 0) (x := 12288) (y := (max ((wi * hi_) * pl_) (2 * ((ln D (p 2704)) : Int)))) rfl rfl (Nat.le_of_ble_eq_true rfl) (by omega) ?_
    have hn4 := wp_n hW (by omega)
    refine tt_nwb (x := (min 12288 (max ((wi * hi_) * pl_) (2 * ((ln D (p 2704)) : Int))))) (k := 0) rfl rfl (by omega) hC ?_
    intro c5 hC5
    show tt Zi d 12 (59, [some (.inr (.inl 27)), some (.inl wi), some (.inl hi_), some (.inl pl_), some (.inl dp_), some (.inl ((wi * hi_) * pl_))], [.inr (.inl (48 + n)), .inr (.inl 27)], (n + 1), (ud D (48 + n) (0, ((min 12288 (max ((wi * hi_) * pl_) (2 * ((ln D (p 2704)) : Int))))).toNat)), (us (us (us (us s 2700 wi) 2701 hi_) 2702 pl_) 2703 dp_), p, c5) _
    refine tt_k 2 (S' := (73, [some (.inr (.inl 27)), some (.inl wi), some (.inl hi_), some (.inl pl_), some (.inl dp_), some (.inl ((wi * hi_) * pl_))], [], (n + 1), (ud D (48 + n) (0, ((min 12288 (max ((wi * hi_) * pl_) (2 * ((ln D (p 2704)) : Int))))).toNat)), (us (us (us (us s 2700 wi) 2701 hi_) 2702 pl_) 2703 dp_), (up p 2704 (48 + n)), c5)) rfl ?_
    exact tt_rtv rfl rfl ⟨(n + 1), (ud D (48 + n) (0, ((min 12288 (max ((wi * hi_) * pl_) (2 * ((ln D (p 2704)) : Int))))).toNat)), (us (us (us (us s 2700 wi) 2701 hi_) 2702 pl_) 2703 dp_), (up p 2704 (48 + n)), c5, rfl, rfl, (bS_us (bS_us (bS_us (bS_us hS (show 0 ≤ wi ∧ wi ≤ 64 by omega)) (show 0 ≤ hi_ ∧ hi_ ≤ 64 by omega)) (show 0 ≤ pl_ ∧ pl_ ≤ 3 by omega)) (show 0 ≤ dp_ ∧ dp_ ≤ 16 by omega)), hC5, (wp_rs27 hW (by omega) (by omega) (by omega) (by omega) (by omega) (by omega)), (fr_us (by decide) (fr_us (by decide) (fr_us (by decide) (fr_us (by decide) fr_rf)))), (frp_up (by decide) frp_rf), (ext_tr ext_rf ext_1), rfl, rfl, rfl, rfl⟩
set_option maxRecDepth 100000 in
set_option maxHeartbeats 4000000 in
theorem g_write_L4 {g : Nat → Int} {Zi : Nat → Option (Nat × (Nat → Int))} {d n q : Nat} {D : Nat → Nat × Nat} {s : Nat → Int} {p : Nat → Nat} {c : Nat → Nat → Int} {o_2 : Option mi_V} {Q : mi_Rs → mi_H → Prop} (hd : 2 ≤ d) (hz : zk Zi) (hq : q + 4 ≤ 400001) (hS : bS s) (hC : bC D c) (hW : wp q g n D p s) (U : Int) (v : Int) (b_v : -2147483648 ≤ v ∧ v ≤ 2147483647) (hq0 : U ≤ 1834990)
  (hK : ∀ (k : Int) (n0 : Nat) (D0 : Nat → Nat × Nat) (s0 : Nat → Int) (p0 : Nat → Nat) (c0 : Nat → Nat → Int) (b_k : -2147483648 ≤ k ∧ k ≤ 63) (hS0 : bS s0) (hF0 : fr s s0 [401, 1601, 1602]) (hC0 : bC D0 c0) (hW0 : wp q g n0 D0 p0 s0) (hP0 : frp p p0 [400]) (hE0 : ext n D n0 D0) (hc_wo : wo s0) (i0 : 7 * s0 401 - s0 1602 + max 0 (k + 1) ≤ U), (k < 0) → tt Zi d 47 (84, [some (.inr (.inl 16)), some (.inl v), o_2, some (.inl k)], [], n0, D0, s0, p0, c0) Q) :
  ∀ (m : Nat) (k : Int) (n0 : Nat) (D0 : Nat → Nat × Nat) (s0 : Nat → Int) (p0 : Nat → Nat) (c0 : Nat → Nat → Int) (b_k : -2147483648 ≤ k ∧ k ≤ 63) (hS0 : bS s0) (hF0 : fr s s0 [401, 1601, 1602]) (hC0 : bC D0 c0) (hW0 : wp q g n0 D0 p0 s0) (hP0 : frp p p0 [400]) (hE0 : ext n D n0 D0) (hc_wo : wo s0) (i0 : 7 * s0 401 - s0 1602 + max 0 (k + 1) ≤ U), (k + 1).toNat < m → tt Zi d 47 (4, [some (.inr (.inl 16)), some (.inl v), o_2, some (.inl k)], [], n0, D0, s0, p0, c0) Q := by
  intro m
  induction m with
  | zero => intro k n0 D0 s0 p0 c0 b_k hS0 hF0 hC0 hW0 hP0 hE0 hc_wo i0 hm; exact absurd hm (by omega)
  | succ m ih =>
    intro k n0 D0 s0 p0 c0 b_k hS0 hF0 hC0 hW0 hP0 hE0 hc_wo i0 hm
    have hw0 := w_lo (size := s0 401) hc_wo
    refine tt_k 1 (S' := (5, [some (.inr (.inl 16)), some (.inl v), o_2, some (.inl k)], [.inl k], n0, D0, s0, p0, c0)) rfl ?_
    refine tz_lt (x := k) rfl rfl (by omega) (fun h1 => ?_) (fun h1 => ?_)
    · show tt Zi d 47 (84, [some (.inr (.inl 16)), some (.inl v), o_2, some (.inl k)], [], n0, D0, s0, p0, c0) _
      exact hK k n0 D0 s0 p0 c0 (by omega) hS0 hF0 hC0 hW0 hP0 hE0 hc_wo (show 7 * (s0 401) - (s0 1602) + max 0 (k + 1) ≤ U by omega) (by omega)
    · show tt Zi d 47 (8, [some (.inr (.inl 16)), some (.inl v), o_2, some (.inl k)], [], n0, D0, s0, p0, c0) _
      refine tt_k 14 (S' := (26, [some (.inr (.inl 16)), some (.inl v), o_2, some (.inl k)], [.inr (.inl 16), .inr (.inl 16)], n0, D0, (us s0 1601 (((2 * (s0 1601)) + (mi_and (mi_shr v k) 1)))), p0, c0)) rfl ?_
      refine tt_k 6 (S' := (38, [some (.inr (.inl 16)), some (.inl v), o_2, some (.inl k)], [.inl ((s0 1602) - 1)], n0, D0, (us (us s0 1601 (((2 * (s0 1601)) + (mi_and (mi_shr v k) 1)))) 1602 ((s0 1602) - 1)), p0, c0)) rfl ?_
      have b2 : 1 ≤ (s0 1602) ∧ (s0 1602) ≤ 8 := hS0 1602
      refine tz_ne (x := ((s0 1602) - 1)) rfl rfl (by omega) (fun h3 => ?_) (fun h3 => ?_)
      · show tt Zi d 47 (78, [some (.inr (.inl 16)), some (.inl v), o_2, some (.inl k)], [], n0, D0, (us (us s0 1601 (((2 * (s0 1601)) + (mi_and (mi_shr v k) 1)))) 1602 ((s0 1602) - 1)), p0, c0) _
        refine tt_k 2 (S' := (4, [some (.inr (.inl 16)), some (.inl v), o_2, some (.inl (k + (-1)))], [], n0, D0, (us (us s0 1601 (((2 * (s0 1601)) + (mi_and (mi_shr v k) 1)))) 1602 ((s0 1602) - 1)), p0, c0)) rfl ?_
        have b4 : 0 ≤ (s0 1601) ∧ (s0 1601) ≤ 255 := hS0 1601
        have e5 := mi_shr_bd v k
        have e6 := mi_and1 (mi_shr v k)
        exact ih (k + (-1)) n0 D0 (us (us s0 1601 (((2 * (s0 1601)) + (mi_and (mi_shr v k) 1)))) 1602 ((s0 1602) - 1)) p0 c0 (by omega) (bS_us (bS_us hS0 (show 0 ≤ ((2 * (s0 1601)) + (mi_and (mi_shr v k) 1)) ∧ ((2 * (s0 1601)) + (mi_and (mi_shr v k) 1)) ≤ 255 by omega)) (show 1 ≤ ((s0 1602) - 1) ∧ ((s0 1602) - 1) ≤ 8 by omega)) (fr_us (by decide) (fr_us (by decide) hF0)) hC0 (wp_w12 hW0 (by first | exact Or.inl (by omega) | exact Or.inr (w_bit1 (size := 0) hc_wo (by omega) (by omega)).1)) hP0 hE0 (show w_ok ((2 * (s0 1601)) + (mi_and (mi_shr v k) 1)) ((s0 1602) - 1) from (w_bit1 (size := 0) hc_wo (by omega) (by omega)).1) (show 7 * (s0 401) - ((s0 1602) - 1) + max 0 ((k + (-1)) + 1) ≤ U by omega) (show ((k + (-1)) + 1).toNat < m by omega)
      · show tt Zi d 47 (41, [some (.inr (.inl 16)), some (.inl v), o_2, some (.inl k)], [], n0, D0, (us (us s0 1601 (((2 * (s0 1601)) + (mi_and (mi_shr v k) 1)))) 1602 ((s0 1602) - 1)), p0, c0) _
        refine tt_k 4 (S' := (49, [some (.inr (.inl 16)), some (.inl v), o_2, some (.inl k)], [.inl (((2 * (s0 1601)) + (mi_and (mi_shr v k) 1))), .inr (.inl 4)], n0, D0, (us (us s0 1601 (((2 * (s0 1601)) + (mi_and (mi_shr v k) 1)))) 1602 ((s0 1602) - 1)), p0, c0)) rfl ?_
        have b7 : 0 ≤ (s0 1601) ∧ (s0 1601) ≤ 255 := hS0 1601
        have e8 := mi_shr_bd v k
        have e9 := mi_and1 (mi_shr v k)
        have b10 : 0 ≤ (s0 401) ∧ (s0 401) ≤ 262144 := hS0 401
        refine tt_cl (by omega) rfl (g_add4x (Zi := Zi) (q := q) (n := n0) (D := D0) (s := (us (us s0 1601 (((2 * (s0 1601)) + (mi_and (mi_shr v k) 1)))) 1602 ((s0 1602) - 1))) (p := p0) (c := c0) (by omega) hz (by omega) (by rw [us_us]; exact bS_us (bS_us hS0 (show 0 ≤ ((2 * (s0 1601)) + (mi_and (mi_shr v k) 1)) ∧ ((2 * (s0 1601)) + (mi_and (mi_shr v k) 1)) ≤ 255 by omega)) (by decide)) hC0 (wp_w12 hW0 (by first | exact Or.inl (by omega) | exact Or.inr (w_bit1 (size := 0) hc_wo (by omega) (by omega)).1)) (((2 * (s0 1601)) + (mi_and (mi_shr v k) 1))) (by omega) (show (s0 401) ≤ 262143 by omega)) ?_
        rintro _ _ ⟨n11, D12, s13, p14, c15, rfl, rfl, hS13, hC15, hW16, f17, g18, xe19, k20⟩
        show tt Zi d 47 (52, [some (.inr (.inl 16)), some (.inl v), o_2, some (.inl k)], [], n11, D12, s13, p14, c15) _
        replace k20 : (s13 401) = (s0 401) + 1 := k20
        have b21 : 0 ≤ (s13 401) ∧ (s13 401) ≤ 262144 := hS13 401
        have e22 : s13 1601 = ((2 * (s0 1601)) + (mi_and (mi_shr v k) 1)) := (f17 1601 (by decide))
        have b23 : 0 ≤ (s13 1601) ∧ (s13 1601) ≤ 255 := hS13 1601
        have e24 : s13 1602 = ((s0 1602) - 1) := (f17 1602 (by decide))
        refine tt_k 4 (S' := (60, [some (.inr (.inl 16)), some (.inl v), o_2, some (.inl k)], [.inl 255, .inl (s13 1601), .inr (.inl 16)], n11, D12, s13, p14, c15)) rfl ?_
        have K26 : ∀ (j25 : Int) , (7 ≤ j25 ∧ j25 ≤ 8) → (((s13 1601) ≠ 255 ∧ j25 = 8) ∨ ((s13 1601) = 255 ∧ j25 = 7)) → tt Zi d 47 (70, [some (.inr (.inl 16)), some (.inl v), o_2, some (.inl k)], [.inl j25, .inr (.inl 16)], n11, D12, s13, p14, c15) Q := by
          intro j25 b28 hj27
          refine tt_k 6 (S' := (4, [some (.inr (.inl 16)), some (.inl v), o_2, some (.inl (k + (-1)))], [], n11, D12, (us (us s13 1602 j25) 1601 0), p14, c15)) rfl ?_
          exact ih (k + (-1)) n11 D12 (us (us s13 1602 j25) 1601 0) p14 c15 (by omega) (bS_us (bS_uu hS13 (show 1 ≤ j25 ∧ j25 ≤ 8 by omega)) (show 0 ≤ 0 ∧ 0 ≤ 255 by omega)) (fr_us (by decide) (fr_us (by decide) (fr_tr (fr_us (by decide) (fr_us (by decide) hF0)) f17 (by decide)))) hC15 (wp_w21 hW16 (Or.inr (w_ok0 (by omega)))) (frp_tr hP0 g18 (by decide)) (ext_tr hE0 xe19) (show w_ok 0 j25 from w_ok0 (by omega)) (show 7 * (s13 401) - j25 + max 0 ((k + (-1)) + 1) ≤ U by omega) (show ((k + (-1)) + 1).toNat < m by omega)
        refine tb_ne (x := (s13 1601)) (y := 255) rfl rfl (by omega) (fun h29 => ?_) (fun h29 => ?_)
        · show tt Zi d 47 (68, [some (.inr (.inl 16)), some (.inl v), o_2, some (.inl k)], [.inr (.inl 16)], n11, D12, s13, p14, c15) _
          refine tt_k 1 (S' := (70, [some (.inr (.inl 16)), some (.inl v), o_2, some (.inl k)], [.inl 8, .inr (.inl 16)], n11, D12, s13, p14, c15)) rfl ?_
          exact K26 8  (by omega) (Or.inl ⟨h29, rfl⟩)
        · show tt Zi d 47 (63, [some (.inr (.inl 16)), some (.inl v), o_2, some (.inl k)], [.inr (.inl 16)], n11, D12, s13, p14, c15) _
          refine tt_k 2 (S' := (70, [some (.inr (.inl 16)), some (.inl v), o_2, some (.inl k)], [.inl 7, .inr (.inl 16)], n11, D12, s13, p14, c15)) rfl ?_
          exact K26 7  (by omega) (Or.inr (⟨h29, rfl⟩))
set_option maxRecDepth 100000 in
set_option maxHeartbeats 4000000 in
theorem g_write {g : Nat → Int} {Zi : Nat → Option (Nat × (Nat → Int))} {d n q : Nat} {D : Nat → Nat × Nat} {s : Nat → Int} {p : Nat → Nat} {c : Nat → Nat → Int} (hd : 2 ≤ d) (hz : zk Zi) (hq : q + 4 ≤ 400000) (hS : bS s) (hC : bC D c) (hW : wp q g n D p s) (v : Int) (n_ : Int) (b_v : -2147483648 ≤ v ∧ v ≤ 2147483647) (b_n_ : -2147483647 ≤ n_ ∧ n_ ≤ 64) (hp0 : wo s) (hp1 : 7 * s 401 - s 1602 + 64 ≤ 1834990) : tt Zi d 47 (0, [some (.inr (.inl 16)), some (.inl v), some (.inl n_), none], [], n, D, s, p, c) (fun R H => ∃ (n' : Nat) (D' : Nat → Nat × Nat) (s' : Nat → Int) (p' : Nat → Nat) (c' : Nat → Nat → Int), R = .inl none ∧ H = (n', D', s', p', c') ∧ bS s' ∧ bC D' c' ∧ wp q g n' D' p' s' ∧ fr s s' [401, 1601, 1602] ∧ frp p p' [400] ∧ ext n D n' D' ∧ (wo s') ∧ (7 * s' 401 - s' 1602 ≤ 7 * s 401 - s 1602 + max 0 n_)) := by
  have hw0 := w_lo (size := s 401) hp0
  refine tt_k 4 (S' := (4, [some (.inr (.inl 16)), some (.inl v), some (.inl n_), some (.inl (n_ - 1))], [], n, D, s, p, c)) rfl ?_
  refine g_write_L4 (Zi := Zi) (q := q) (n := n) (D := D) (s := s) (p := p) (c := c) hd hz (by omega) hS hC hW (7 * s 401 - s 1602 + max 0 n_) v (by omega) (show (7 * s 401 - s 1602 + max 0 n_) ≤ 1834990 by omega)  ?_ _ (n_ - 1) n D s p c (by omega) hS fr_rf hC hW frp_rf ext_rf hp0 (show 7 * ((s 401)) - ((s 1602)) + max 0 ((n_ - 1) + 1) ≤ (7 * s 401 - s 1602 + max 0 n_) by omega) (Nat.lt_succ_self _)
  intro x1 n2 D3 s4 p5 c6 b7 hS4 f8 hC6 hW9 g10 xe11 hc12 i13 hx14
  show tt Zi d 47 (84, [some (.inr (.inl 16)), some (.inl v), some (.inl n_), some (.inl x1)], [], n2, D3, s4, p5, c6) _
  replace i13 : 7 * (s4 401) - (s4 1602) + max 0 (x1 + 1) ≤ (7 * s 401 - s 1602 + max 0 n_) := i13
  have b15 : 0 ≤ (s4 401) ∧ (s4 401) ≤ 262144 := hS4 401
  have b16 : 1 ≤ (s4 1602) ∧ (s4 1602) ≤ 8 := hS4 1602
  replace hx14 : x1 < 0 := hx14
  exact tt_rtv rfl rfl ⟨n2, D3, s4, p5, c6, rfl, rfl, hS4, hC6, hW9, (fr_tr fr_rf f8 (by decide)), (frp_tr frp_rf g10 (by decide)), (ext_tr ext_rf xe11), hc12, by show 7 * (s4 401) - (s4 1602) ≤ 7 * s 401 - s 1602 + max 0 n_; omega⟩
set_option maxRecDepth 100000 in
set_option maxHeartbeats 4000000 in
theorem g_writeNumber {g : Nat → Int} {Zi : Nat → Option (Nat × (Nat → Int))} {d n q : Nat} {D : Nat → Nat × Nat} {s : Nat → Int} {p : Nat → Nat} {c : Nat → Nat → Int} (hd : 3 ≤ d) (hz : zk Zi) (hq : q + 6 ≤ 400000) (hS : bS s) (hC : bC D c) (hW : wp q g n D p s) (nu : Int) (k_ : Int) (mz : Int) (wb : Int) (b_nu : -2 ≤ nu ∧ nu ≤ 2000000) (b_k_ : 0 ≤ k_ ∧ k_ ≤ 30) (b_mz : -100 ≤ mz ∧ mz ≤ 63) (b_wb : 0 ≤ wb ∧ wb ≤ 30) (hp0 : wo s) (hp1 : 7 * s 401 - s 1602 + 200 ≤ 1834990) : tt Zi d 46 (0, [some (.inr (.inl 16)), some (.inl nu), some (.inl k_), some (.inl mz), some (.inl wb), none], [], n, D, s, p, c) (fun R H => ∃ (n' : Nat) (D' : Nat → Nat × Nat) (s' : Nat → Int) (p' : Nat → Nat) (c' : Nat → Nat → Int), R = .inl none ∧ H = (n', D', s', p', c') ∧ bS s' ∧ bC D' c' ∧ wp q g n' D' p' s' ∧ fr s s' [401, 1601, 1602] ∧ frp p p' [400] ∧ ext n D n' D' ∧ (wo s') ∧ (7 * s' 401 - s' 1602 ≤ 7 * s 401 - s 1602 + 94)) := by
  have hsh := mi_shr_m2 (x := nu) (k := k_) (by omega) (by omega)
  refine tt_k 6 (S' := (8, [some (.inr (.inl 16)), some (.inl nu), some (.inl k_), some (.inl mz), some (.inl wb), some (.inl (mi_shr nu k_))], [.inl mz, .inl (mi_shr nu k_)], n, D, s, p, c)) rfl ?_
  have e1 := mi_shr_bd nu k_
  refine tb_ge (x := (mi_shr nu k_)) (y := mz) rfl rfl (by omega) (fun h2 => ?_) (fun h2 => ?_)
  · show tt Zi d 46 (33, [some (.inr (.inl 16)), some (.inl nu), some (.inl k_), some (.inl mz), some (.inl wb), some (.inl (mi_shr nu k_))], [], n, D, s, p, c) _
    refine tt_k 3 (S' := (36, [some (.inr (.inl 16)), some (.inl nu), some (.inl k_), some (.inl mz), some (.inl wb), some (.inl (mi_shr nu k_))], [.inl mz, .inl 0, .inr (.inl 16)], n, D, s, p, c)) rfl ?_
    have b3 : 0 ≤ (s 401) ∧ (s 401) ≤ 262144 := hS 401
    have b4 : 1 ≤ (s 1602) ∧ (s 1602) ≤ 8 := hS 1602
    refine tt_cl (by omega) rfl (g_write (Zi := Zi) (q := q) (n := n) (D := D) (s := s) (p := p) (c := c) (by omega) hz (by omega) hS hC hW 0 mz (by omega) (by omega) hp0 (show 7 * (s 401) - (s 1602) + 64 ≤ 1834990 by omega)) ?_
    rintro _ _ ⟨n5, D6, s7, p8, c9, rfl, rfl, hS7, hC9, hW10, f11, g12, xe13, k14, k15⟩
    show tt Zi d 46 (39, [some (.inr (.inl 16)), some (.inl nu), some (.inl k_), some (.inl mz), some (.inl wb), some (.inl (mi_shr nu k_))], [], n5, D6, s7, p8, c9) _
    replace k15 : 7 * (s7 401) - (s7 1602) ≤ 7 * (s 401) - (s 1602) + max 0 mz := k15
    have b16 : 0 ≤ (s7 401) ∧ (s7 401) ≤ 262144 := hS7 401
    have b17 : 1 ≤ (s7 1602) ∧ (s7 1602) ≤ 8 := hS7 1602
    refine tt_k 3 (S' := (42, [some (.inr (.inl 16)), some (.inl nu), some (.inl k_), some (.inl mz), some (.inl wb), some (.inl (mi_shr nu k_))], [.inl 1, .inl 1, .inr (.inl 16)], n5, D6, s7, p8, c9)) rfl ?_
    refine tt_cl (by omega) rfl (g_write (Zi := Zi) (q := q) (n := n5) (D := D6) (s := s7) (p := p8) (c := c9) (by omega) hz (by omega) hS7 hC9 hW10 1 1 (by omega) (by omega) k14 (show 7 * (s7 401) - (s7 1602) + 64 ≤ 1834990 by omega)) ?_
    rintro _ _ ⟨n18, D19, s20, p21, c22, rfl, rfl, hS20, hC22, hW23, f24, g25, xe26, k27, k28⟩
    show tt Zi d 46 (45, [some (.inr (.inl 16)), some (.inl nu), some (.inl k_), some (.inl mz), some (.inl wb), some (.inl (mi_shr nu k_))], [], n18, D19, s20, p21, c22) _
    replace k28 : 7 * (s20 401) - (s20 1602) ≤ 7 * (s7 401) - (s7 1602) + max 0 1 := k28
    have b29 : 0 ≤ (s20 401) ∧ (s20 401) ≤ 262144 := hS20 401
    have b30 : 1 ≤ (s20 1602) ∧ (s20 1602) ≤ 8 := hS20 1602
    refine tt_k 5 (S' := (51, [some (.inr (.inl 16)), some (.inl nu), some (.inl k_), some (.inl mz), some (.inl wb), some (.inl (mi_shr nu k_))], [.inl wb, .inl (nu - 1), .inr (.inl 16)], n18, D19, s20, p21, c22)) rfl ?_
    refine tt_cl (by omega) rfl (g_write (Zi := Zi) (q := q) (n := n18) (D := D19) (s := s20) (p := p21) (c := c22) (by omega) hz (by omega) hS20 hC22 hW23 (nu - 1) wb (by omega) (by omega) k27 (show 7 * (s20 401) - (s20 1602) + 64 ≤ 1834990 by omega)) ?_
    rintro _ _ ⟨n31, D32, s33, p34, c35, rfl, rfl, hS33, hC35, hW36, f37, g38, xe39, k40, k41⟩
    show tt Zi d 46 (54, [some (.inr (.inl 16)), some (.inl nu), some (.inl k_), some (.inl mz), some (.inl wb), some (.inl (mi_shr nu k_))], [], n31, D32, s33, p34, c35) _
    replace k41 : 7 * (s33 401) - (s33 1602) ≤ 7 * (s20 401) - (s20 1602) + max 0 wb := k41
    have b42 : 0 ≤ (s33 401) ∧ (s33 401) ≤ 262144 := hS33 401
    have b43 : 1 ≤ (s33 1602) ∧ (s33 1602) ≤ 8 := hS33 1602
    exact tt_rtv rfl rfl ⟨n31, D32, s33, p34, c35, rfl, rfl, hS33, hC35, hW36, (fr_tr (fr_tr (fr_tr fr_rf f11 (by decide)) f24 (by decide)) f37 (by decide)), (frp_tr (frp_tr (frp_tr frp_rf g12 (by decide)) g25 (by decide)) g38 (by decide)), (ext_tr (ext_tr (ext_tr ext_rf xe13) xe26) xe39), k40, by show 7 * (s33 401) - (s33 1602) ≤ 7 * s 401 - s 1602 + 94; omega⟩
  · show tt Zi d 46 (11, [some (.inr (.inl 16)), some (.inl nu), some (.inl k_), some (.inl mz), some (.inl wb), some (.inl (mi_shr nu k_))], [], n, D, s, p, c) _
    refine tt_k 3 (S' := (15, [some (.inr (.inl 16)), some (.inl nu), some (.inl k_), some (.inl mz), some (.inl wb), some (.inl (mi_shr nu k_))], [.inl (mi_shr nu k_), .inl 0, .inr (.inl 16)], n, D, s, p, c)) rfl ?_
    have b44 : 0 ≤ (s 401) ∧ (s 401) ≤ 262144 := hS 401
    have b45 : 1 ≤ (s 1602) ∧ (s 1602) ≤ 8 := hS 1602
    refine tt_cl (by omega) rfl (g_write (Zi := Zi) (q := q) (n := n) (D := D) (s := s) (p := p) (c := c) (by omega) hz (by omega) hS hC hW 0 (mi_shr nu k_) (by omega) (by omega) hp0 (show 7 * (s 401) - (s 1602) + 64 ≤ 1834990 by omega)) ?_
    rintro _ _ ⟨n46, D47, s48, p49, c50, rfl, rfl, hS48, hC50, hW51, f52, g53, xe54, k55, k56⟩
    show tt Zi d 46 (18, [some (.inr (.inl 16)), some (.inl nu), some (.inl k_), some (.inl mz), some (.inl wb), some (.inl (mi_shr nu k_))], [], n46, D47, s48, p49, c50) _
    replace k56 : 7 * (s48 401) - (s48 1602) ≤ 7 * (s 401) - (s 1602) + max 0 (mi_shr nu k_) := k56
    have b57 : 0 ≤ (s48 401) ∧ (s48 401) ≤ 262144 := hS48 401
    have b58 : 1 ≤ (s48 1602) ∧ (s48 1602) ≤ 8 := hS48 1602
    refine tt_k 3 (S' := (21, [some (.inr (.inl 16)), some (.inl nu), some (.inl k_), some (.inl mz), some (.inl wb), some (.inl (mi_shr nu k_))], [.inl 1, .inl 1, .inr (.inl 16)], n46, D47, s48, p49, c50)) rfl ?_
    refine tt_cl (by omega) rfl (g_write (Zi := Zi) (q := q) (n := n46) (D := D47) (s := s48) (p := p49) (c := c50) (by omega) hz (by omega) hS48 hC50 hW51 1 1 (by omega) (by omega) k55 (show 7 * (s48 401) - (s48 1602) + 64 ≤ 1834990 by omega)) ?_
    rintro _ _ ⟨n59, D60, s61, p62, c63, rfl, rfl, hS61, hC63, hW64, f65, g66, xe67, k68, k69⟩
    show tt Zi d 46 (24, [some (.inr (.inl 16)), some (.inl nu), some (.inl k_), some (.inl mz), some (.inl wb), some (.inl (mi_shr nu k_))], [], n59, D60, s61, p62, c63) _
    replace k69 : 7 * (s61 401) - (s61 1602) ≤ 7 * (s48 401) - (s48 1602) + max 0 1 := k69
    have b70 : 0 ≤ (s61 401) ∧ (s61 401) ≤ 262144 := hS61 401
    have b71 : 1 ≤ (s61 1602) ∧ (s61 1602) ≤ 8 := hS61 1602
    refine tt_k 3 (S' := (27, [some (.inr (.inl 16)), some (.inl nu), some (.inl k_), some (.inl mz), some (.inl wb), some (.inl (mi_shr nu k_))], [.inl k_, .inl nu, .inr (.inl 16)], n59, D60, s61, p62, c63)) rfl ?_
    refine tt_cl (by omega) rfl (g_write (Zi := Zi) (q := q) (n := n59) (D := D60) (s := s61) (p := p62) (c := c63) (by omega) hz (by omega) hS61 hC63 hW64 nu k_ (by omega) (by omega) k68 (show 7 * (s61 401) - (s61 1602) + 64 ≤ 1834990 by omega)) ?_
    rintro _ _ ⟨n72, D73, s74, p75, c76, rfl, rfl, hS74, hC76, hW77, f78, g79, xe80, k81, k82⟩
    show tt Zi d 46 (30, [some (.inr (.inl 16)), some (.inl nu), some (.inl k_), some (.inl mz), some (.inl wb), some (.inl (mi_shr nu k_))], [], n72, D73, s74, p75, c76) _
    replace k82 : 7 * (s74 401) - (s74 1602) ≤ 7 * (s61 401) - (s61 1602) + max 0 k_ := k82
    have b83 : 0 ≤ (s74 401) ∧ (s74 401) ≤ 262144 := hS74 401
    have b84 : 1 ≤ (s74 1602) ∧ (s74 1602) ≤ 8 := hS74 1602
    refine tt_k 1 (S' := (54, [some (.inr (.inl 16)), some (.inl nu), some (.inl k_), some (.inl mz), some (.inl wb), some (.inl (mi_shr nu k_))], [], n72, D73, s74, p75, c76)) rfl ?_
    exact tt_rtv rfl rfl ⟨n72, D73, s74, p75, c76, rfl, rfl, hS74, hC76, hW77, (fr_tr (fr_tr (fr_tr fr_rf f52 (by decide)) f65 (by decide)) f78 (by decide)), (frp_tr (frp_tr (frp_tr frp_rf g53 (by decide)) g66 (by decide)) g79 (by decide)), (ext_tr (ext_tr (ext_tr ext_rf xe54) xe67) xe80), k81, by show 7 * (s74 401) - (s74 1602) ≤ 7 * s 401 - s 1602 + 94; omega⟩
set_option maxRecDepth 100000 in
set_option maxHeartbeats 4000000 in
theorem g_finish {g : Nat → Int} {Zi : Nat → Option (Nat × (Nat → Int))} {d n q : Nat} {D : Nat → Nat × Nat} {s : Nat → Int} {p : Nat → Nat} {c : Nat → Nat → Int} (hd : 2 ≤ d) (hz : zk Zi) (hq : q + 4 ≤ 400000) (hS : bS s) (hC : bC D c) (hW : wp q g n D p s) (hp0 : s 401 ≤ 262143) : tt Zi d 114 (0, [some (.inr (.inl 16))], [], n, D, s, p, c) (fun R H => ∃ (n' : Nat) (D' : Nat → Nat × Nat) (s' : Nat → Int) (p' : Nat → Nat) (c' : Nat → Nat → Int), R = .inl none ∧ H = (n', D', s', p', c') ∧ bS s' ∧ bC D' c' ∧ wp q g n' D' p' s' ∧ fr s s' [401, 1601, 1602] ∧ frp p p' [400] ∧ ext n D n' D' ∧ (wo s') ∧ (s' 401 ≤ s 401 + 1) ∧ (s' 1602 = 8)) := by
  refine tt_k 3 (S' := (6, [some (.inr (.inl 16))], [.inl 8, .inl (s 1602)], n, D, s, p, c)) rfl ?_
  have b1 : 1 ≤ (s 1602) ∧ (s 1602) ≤ 8 := hS 1602
  refine tb_ge (x := (s 1602)) (y := 8) rfl rfl (by omega) (fun h2 => ?_) (fun h2 => ?_)
  · show tt Zi d 114 (25, [some (.inr (.inl 16))], [], n, D, s, p, c) _
    refine tt_k 6 (S' := (36, [some (.inr (.inl 16))], [], n, D, (us (us s 1602 8) 1601 0), p, c)) rfl ?_
    exact tt_rtv rfl rfl ⟨n, D, (us (us s 1602 8) 1601 0), p, c, rfl, rfl, (bS_us (bS_us hS (show 1 ≤ 8 ∧ 8 ≤ 8 by omega)) (show 0 ≤ 0 ∧ 0 ≤ 255 by omega)), hC, (wp_w21 hW (Or.inr (w_ok0 (by omega)))), (fr_us (by decide) (fr_us (by decide) fr_rf)), frp_rf, ext_rf, (show w_ok 0 8 from w_ok0 (Or.inr rfl)), by show (s 401) ≤ s 401 + 1; omega, rfl⟩
  · show tt Zi d 114 (9, [some (.inr (.inl 16))], [], n, D, s, p, c) _
    refine tt_k 7 (S' := (22, [some (.inr (.inl 16))], [.inl (mi_shl (s 1601) (s 1602)), .inr (.inl 4)], n, D, s, p, c)) rfl ?_
    have b3 : 0 ≤ (s 1601) ∧ (s 1601) ≤ 255 := hS 1601
    have e4 := mi_shl_bd (s 1601) (s 1602)
    have b5 : 0 ≤ (s 401) ∧ (s 401) ≤ 262144 := hS 401
    refine tt_cl (by omega) rfl (g_add4 (Zi := Zi) (q := q) (n := n) (D := D) (s := s) (p := p) (c := c) (by omega) hz (by omega) hS hC hW (mi_shl (s 1601) (s 1602)) (by omega) (show (s 401) ≤ 262143 by omega)) ?_
    rintro _ _ ⟨n6, D7, s8, p9, c10, rfl, rfl, hS8, hC10, hW11, f12, g13, xe14, k15⟩
    show tt Zi d 114 (25, [some (.inr (.inl 16))], [], n6, D7, s8, p9, c10) _
    replace k15 : (s8 401) = (s 401) + 1 := k15
    have b16 : 0 ≤ (s8 401) ∧ (s8 401) ≤ 262144 := hS8 401
    refine tt_k 6 (S' := (36, [some (.inr (.inl 16))], [], n6, D7, (us (us s8 1602 8) 1601 0), p9, c10)) rfl ?_
    exact tt_rtv rfl rfl ⟨n6, D7, (us (us s8 1602 8) 1601 0), p9, c10, rfl, rfl, (bS_us (bS_us hS8 (show 1 ≤ 8 ∧ 8 ≤ 8 by omega)) (show 0 ≤ 0 ∧ 0 ≤ 255 by omega)), hC10, (wp_w21 hW11 (Or.inr (w_ok0 (by omega)))), (fr_us (by decide) (fr_us (by decide) (fr_tr fr_rf f12 (by decide)))), (frp_tr frp_rf g13 (by decide)), (ext_tr ext_rf xe14), (show w_ok 0 8 from w_ok0 (Or.inr rfl)), by show (s8 401) ≤ s 401 + 1; omega, rfl⟩
