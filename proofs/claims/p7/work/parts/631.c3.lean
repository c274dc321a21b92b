/-! the class's rows of bytes, its bit writer, its pictures' shapes -/
set_option maxRecDepth 100000 in
set_option maxHeartbeats 4000000 in
theorem g_get6 {g : Nat → Int} {Zi : Nat → Option (Nat × (Nat → Int))} {d n q : Nat} {D : Nat → Nat × Nat} {s : Nat → Int} {p : Nat → Nat} {c : Nat → Nat → Int} (hd : 0 ≤ d) (hz : zk Zi) (hq : q + 0 ≤ 400000) (hD : wd n p) (hS : bS s) (hC : bC D c) (hW : wp q g n D p s) (i : Int) (b_i : -2147483648 ≤ i ∧ i ≤ 2147483647) (hp0 : 0 ≤ i ∧ i < (ln D (p 600) : Int)) : tt Zi d 21 (0, [some (.inr (.inl 6)), some (.inl i)], [], n, D, s, p, c) (fun R H => ∃ (r : Int), R = .inl (some (.inl r)) ∧ H = (n, D, s, p, c) ∧ (0 ≤ r ∧ r ≤ 255)) := by
  have b1 := wp_l6 hW
  refine tt_k 3 (S' := (5, [some (.inr (.inl 6)), some (.inl i)], [.inl i, .inr (.inl (p 600))], n, D, s, p, c)) rfl ?_
  refine tt_blb (i := i) (m := (ln D (p 600))) (lo := -128) (hi := 127) rfl ((hW).r6.1) (by omega) hC ((hW).r6.2) ?_
  intro v2 b3 hvv2
  show tt Zi d 21 (6, [some (.inr (.inl 6)), some (.inl i)], [.inl v2], n, D, s, p, c) _
  refine tt_k 2 (S' := (10, [some (.inr (.inl 6)), some (.inl i)], [.inl (mi_and v2 255)], n, D, s, p, c)) rfl ?_
  have e4 := mi_and255 v2
  exact tt_rti rfl rfl ⟨(mi_and v2 255), rfl, rfl, by omega⟩
set_option maxRecDepth 100000 in
set_option maxHeartbeats 4000000 in
theorem g_add6 {g : Nat → Int} {Zi : Nat → Option (Nat × (Nat → Int))} {d n q : Nat} {D : Nat → Nat × Nat} {s : Nat → Int} {p : Nat → Nat} {c : Nat → Nat → Int} (hd : 1 ≤ d) (hz : zk Zi) (hq : q + 2 ≤ 400000) (hD : wd n p) (hS : bS s) (hC : bC D c) (hW : wp q g n D p s) (v : Int) (b_v : -2147483648 ≤ v ∧ v ≤ 2147483647) (hp0 : s 601 ≤ 32767) : tt Zi d 48 (0, [some (.inr (.inl 6)), some (.inl v)], [], n, D, s, p, c) (fun R H => ∃ (n' : Nat) (D' : Nat → Nat × Nat) (s' : Nat → Int) (p' : Nat → Nat) (c' : Nat → Nat → Int), R = .inl none ∧ H = (n', D', s', p', c') ∧ bS s' ∧ bC D' c' ∧ wp q g n' D' p' s' ∧ fr s s' [601] ∧ frp p p' [600] ∧ ext n D n' D' ∧ fk p c n' p' c' [600] ∧ (s' 601 = s 601 + 1)) := by
  have b1 := wp_l6 hW
  have hc4 := hW.c6
  have b2 : 0 ≤ (s 601) ∧ (s 601) ≤ 32768 := hS 601
  refine tt_k 4 (S' := (8, [some (.inr (.inl 6)), some (.inl v)], [.inr (.inl (p 600)), .inl (s 601)], n, D, s, p, c)) rfl ?_
  refine tt_len (m := (ln D (p 600))) rfl ((hW).r6.1) rfl ?_
  show tt Zi d 48 (9, [some (.inr (.inl 6)), some (.inl v)], [.inl (((ln D (p 600)) : Int)), .inl (s 601)], n, D, s, p, c) _
  refine tb_ne (x := (s 601)) (y := ((ln D (p 600)) : Int)) rfl rfl (by omega) (fun h3 => ?_) (fun h3 => ?_)
  · show tt Zi d 48 (30, [some (.inr (.inl 6)), some (.inl v)], [], n, D, s, p, c) _
    refine tt_k 6 (S' := (40, [some (.inr (.inl 6)), some (.inl v)], [.inl (mi_i2b v), .inl (s 601), .inr (.inl (p 600))], n, D, s, p, c)) rfl ?_
    have e4 := mi_i2b_bd v
    refine tt_bsb (i := (s 601)) (m := (ln D (p 600))) (lo := -128) (hi := 127) (x := (mi_i2b v)) rfl ((hW).r6.1) (by omega) hC ((hW).r6.2) ⟨rfl, rfl⟩ ?_
    intro c5 hC5 ec5
    show tt Zi d 48 (41, [some (.inr (.inl 6)), some (.inl v)], [], n, D, s, p, c5) _
    have FK6 : fk p c n p c5 [600] := fk_st (k := 600) (fk_rf hD) ec5 (by decide) rfl
    refine tt_k 6 (S' := (51, [some (.inr (.inl 6)), some (.inl v)], [], n, D, (us s 601 ((s 601) + 1)), p, c5)) rfl ?_
    exact tt_rtv rfl rfl ⟨n, D, (us s 601 ((s 601) + 1)), p, c5, rfl, rfl, (bS_us hS (show 0 ≤ ((s 601) + 1) ∧ ((s 601) + 1) ≤ 32768 by omega)), hC5, (wp_c6 hW (show ((s 601) + 1) ≤ (ln D (p 600) : Int) by omega)), (fr_us (by decide) fr_rf), frp_rf, ext_rf, FK6, rfl⟩
  · show tt Zi d 48 (12, [some (.inr (.inl 6)), some (.inl v)], [], n, D, s, p, c) _
    refine tt_k 6 (S' := (22, [some (.inr (.inl 6)), some (.inl v)], [.inr (.inl (p 600)), .inl 2, .inr (.inl (p 600)), .inr (.inl 6)], n, D, s, p, c)) rfl ?_
    refine tt_len (m := (ln D (p 600))) rfl ((hW).r6.1) rfl ?_
    show tt Zi d 48 (23, [some (.inr (.inl 6)), some (.inl v)], [.inl (((ln D (p 600)) : Int)), .inl 2, .inr (.inl (p 600)), .inr (.inl 6)], n, D, s, p, c) _
    refine tt_k 1 (S' := (24, [some (.inr (.inl 6)), some (.inl v)], [.inl ((2 * ((ln D (p 600)) : Int))), .inr (.inl (p 600)), .inr (.inl 6)], n, D, s, p, c)) rfl ?_
    have hn8 := wp_n hW (by omega)
    refine tt_cl (by omega) rfl (g_copyOf (A := (p 600)) (x := (2 * ((ln D (p 600)) : Int))) (s := s) (p := p) (hW).r6 (by omega) (by omega) (by omega) hC) ?_
    rintro _ _ ⟨c7, rfl, rfl, hC7, fc7, ec7, zc7⟩
    show tt Zi d 48 (27, [some (.inr (.inl 6)), some (.inl v)], [.inr (.inl (48 + n)), .inr (.inl 6)], (n + 1), (ud D (48 + n) (1, ((2 * ((ln D (p 600)) : Int))).toNat)), s, p, c7) _
    refine tt_k 7 (S' := (40, [some (.inr (.inl 6)), some (.inl v)], [.inl (mi_i2b v), .inl (s 601), .inr (.inl (48 + n))], (n + 1), (ud D (48 + n) (1, ((2 * ((ln D (p 600)) : Int))).toNat)), s, (up p 600 (48 + n)), c7)) rfl ?_
    have e9 := mi_i2b_bd v
    refine tt_bsb (i := (s 601)) (m := ((2 * ((ln D (p 600)) : Int))).toNat) (lo := -128) (hi := 127) (x := (mi_i2b v)) rfl (arr_nw (by omega)) (by omega) hC7 lo_nw1 ⟨rfl, rfl⟩ ?_
    intro c10 hC10 ec10
    show tt Zi d 48 (41, [some (.inr (.inl 6)), some (.inl v)], [], (n + 1), (ud D (48 + n) (1, ((2 * ((ln D (p 600)) : Int))).toNat)), s, (up p 600 (48 + n)), c10) _
    have FK11 : fk p c (n + 1) (up p 600 (48 + n)) c10 [600] := fk_st (k := 600) (fk_np (k := 600) (fk_rf hD) (by decide) ec7) ec10 (by decide) rfl
    refine tt_k 6 (S' := (51, [some (.inr (.inl 6)), some (.inl v)], [], (n + 1), (ud D (48 + n) (1, ((2 * ((ln D (p 600)) : Int))).toNat)), (us s 601 ((s 601) + 1)), (up p 600 (48 + n)), c10)) rfl ?_
    exact tt_rtv rfl rfl ⟨(n + 1), (ud D (48 + n) (1, ((2 * ((ln D (p 600)) : Int))).toNat)), (us s 601 ((s 601) + 1)), (up p 600 (48 + n)), c10, rfl, rfl, (bS_us hS (show 0 ≤ ((s 601) + 1) ∧ ((s 601) + 1) ≤ 32768 by omega)), hC10, (wp_c6 (wp_g6 hW (by omega) (by omega) (by omega)) (show ((s 601) + 1) ≤ (ln (ud D (48 + n) (1, ((2 * ((ln D (p 600)) : Int))).toNat)) (48 + n) : Int) by rw [ln_nw]; omega)), (fr_us (by decide) fr_rf), (frp_up (by decide) frp_rf), (ext_tr ext_rf ext_1), FK11, rfl⟩
set_option maxRecDepth 100000 in
set_option maxHeartbeats 4000000 in
theorem g_addTwo6 {g : Nat → Int} {Zi : Nat → Option (Nat × (Nat → Int))} {d n q : Nat} {D : Nat → Nat × Nat} {s : Nat → Int} {p : Nat → Nat} {c : Nat → Nat → Int} (hd : 2 ≤ d) (hz : zk Zi) (hq : q + 4 ≤ 400000) (hD : wd n p) (hS : bS s) (hC : bC D c) (hW : wp q g n D p s) (v : Int) (b_v : -2147483648 ≤ v ∧ v ≤ 2147483647) (hp0 : s 601 ≤ 32766) : tt Zi d 110 (0, [some (.inr (.inl 6)), some (.inl v)], [], n, D, s, p, c) (fun R H => ∃ (n' : Nat) (D' : Nat → Nat × Nat) (s' : Nat → Int) (p' : Nat → Nat) (c' : Nat → Nat → Int), R = .inl none ∧ H = (n', D', s', p', c') ∧ bS s' ∧ bC D' c' ∧ wp q g n' D' p' s' ∧ fr s s' [601] ∧ frp p p' [600] ∧ ext n D n' D' ∧ fk p c n' p' c' [600] ∧ (s' 601 = s 601 + 2)) := by
  refine tt_k 4 (S' := (5, [some (.inr (.inl 6)), some (.inl v)], [.inl (mi_shr v 8), .inr (.inl 6)], n, D, s, p, c)) rfl ?_
  have e1 := mi_shr_bd v 8
  have b2 : 0 ≤ (s 601) ∧ (s 601) ≤ 32768 := hS 601
  refine tt_cl (by omega) rfl (g_add6 (Zi := Zi) (q := q) (n := n) (D := D) (s := s) (p := p) (c := c) (by omega) hz (by omega) hD hS hC hW (mi_shr v 8) (by omega) (show (s 601) ≤ 32767 by omega)) ?_
  rintro _ _ ⟨n3, D4, s5, p6, c7, rfl, rfl, hS5, hC7, hW8, f9, g10, xe11, kf12, k13⟩
  have FK14 : fk p c n3 p6 c7 [600] := fk_tr (fk_rf hD) kf12 (by decide)
  show tt Zi d 110 (8, [some (.inr (.inl 6)), some (.inl v)], [], n3, D4, s5, p6, c7) _
  replace k13 : (s5 601) = (s 601) + 1 := k13
  have b15 : 0 ≤ (s5 601) ∧ (s5 601) ≤ 32768 := hS5 601
  refine tt_k 2 (S' := (10, [some (.inr (.inl 6)), some (.inl v)], [.inl v, .inr (.inl 6)], n3, D4, s5, p6, c7)) rfl ?_
  refine tt_cl (by omega) rfl (g_add6 (Zi := Zi) (q := q) (n := n3) (D := D4) (s := s5) (p := p6) (c := c7) (by omega) hz (by omega) FK14.1 hS5 hC7 hW8 v (by omega) (show (s5 601) ≤ 32767 by omega)) ?_
  rintro _ _ ⟨n16, D17, s18, p19, c20, rfl, rfl, hS18, hC20, hW21, f22, g23, xe24, kf25, k26⟩
  have FK27 : fk p c n16 p19 c20 [600] := fk_tr FK14 kf25 (by decide)
  show tt Zi d 110 (13, [some (.inr (.inl 6)), some (.inl v)], [], n16, D17, s18, p19, c20) _
  replace k26 : (s18 601) = (s5 601) + 1 := k26
  have b28 : 0 ≤ (s18 601) ∧ (s18 601) ≤ 32768 := hS18 601
  exact tt_rtv rfl rfl ⟨n16, D17, s18, p19, c20, rfl, rfl, hS18, hC20, hW21, (fr_tr (fr_tr fr_rf f9 (by decide)) f22 (by decide)), (frp_tr (frp_tr frp_rf g10 (by decide)) g23 (by decide)), (ext_tr (ext_tr ext_rf xe11) xe24), FK27, by show (s18 601) = s 601 + 2; omega⟩
set_option maxRecDepth 100000 in
set_option maxHeartbeats 4000000 in
theorem g_addFour6 {g : Nat → Int} {Zi : Nat → Option (Nat × (Nat → Int))} {d n q : Nat} {D : Nat → Nat × Nat} {s : Nat → Int} {p : Nat → Nat} {c : Nat → Nat → Int} (hd : 3 ≤ d) (hz : zk Zi) (hq : q + 6 ≤ 400000) (hD : wd n p) (hS : bS s) (hC : bC D c) (hW : wp q g n D p s) (v : Int) (b_v : -2147483648 ≤ v ∧ v ≤ 2147483647) (hp0 : s 601 ≤ 32764) : tt Zi d 119 (0, [some (.inr (.inl 6)), some (.inl v)], [], n, D, s, p, c) (fun R H => ∃ (n' : Nat) (D' : Nat → Nat × Nat) (s' : Nat → Int) (p' : Nat → Nat) (c' : Nat → Nat → Int), R = .inl none ∧ H = (n', D', s', p', c') ∧ bS s' ∧ bC D' c' ∧ wp q g n' D' p' s' ∧ fr s s' [601] ∧ frp p p' [600] ∧ ext n D n' D' ∧ fk p c n' p' c' [600] ∧ (s' 601 = s 601 + 4)) := by
  refine tt_k 4 (S' := (5, [some (.inr (.inl 6)), some (.inl v)], [.inl (mi_shr v 16), .inr (.inl 6)], n, D, s, p, c)) rfl ?_
  have e1 := mi_shr_bd v 16
  have b2 : 0 ≤ (s 601) ∧ (s 601) ≤ 32768 := hS 601
  refine tt_cl (by omega) rfl (g_addTwo6 (Zi := Zi) (q := q) (n := n) (D := D) (s := s) (p := p) (c := c) (by omega) hz (by omega) hD hS hC hW (mi_shr v 16) (by omega) (show (s 601) ≤ 32766 by omega)) ?_
  rintro _ _ ⟨n3, D4, s5, p6, c7, rfl, rfl, hS5, hC7, hW8, f9, g10, xe11, kf12, k13⟩
  have FK14 : fk p c n3 p6 c7 [600] := fk_tr (fk_rf hD) kf12 (by decide)
  show tt Zi d 119 (8, [some (.inr (.inl 6)), some (.inl v)], [], n3, D4, s5, p6, c7) _
  replace k13 : (s5 601) = (s 601) + 2 := k13
  have b15 : 0 ≤ (s5 601) ∧ (s5 601) ≤ 32768 := hS5 601
  refine tt_k 2 (S' := (10, [some (.inr (.inl 6)), some (.inl v)], [.inl v, .inr (.inl 6)], n3, D4, s5, p6, c7)) rfl ?_
  refine tt_cl (by omega) rfl (g_addTwo6 (Zi := Zi) (q := q) (n := n3) (D := D4) (s := s5) (p := p6) (c := c7) (by omega) hz (by omega) FK14.1 hS5 hC7 hW8 v (by omega) (show (s5 601) ≤ 32766 by omega)) ?_
  rintro _ _ ⟨n16, D17, s18, p19, c20, rfl, rfl, hS18, hC20, hW21, f22, g23, xe24, kf25, k26⟩
  have FK27 : fk p c n16 p19 c20 [600] := fk_tr FK14 kf25 (by decide)
  show tt Zi d 119 (13, [some (.inr (.inl 6)), some (.inl v)], [], n16, D17, s18, p19, c20) _
  replace k26 : (s18 601) = (s5 601) + 2 := k26
  have b28 : 0 ≤ (s18 601) ∧ (s18 601) ≤ 32768 := hS18 601
  exact tt_rtv rfl rfl ⟨n16, D17, s18, p19, c20, rfl, rfl, hS18, hC20, hW21, (fr_tr (fr_tr fr_rf f9 (by decide)) f22 (by decide)), (frp_tr (frp_tr frp_rf g10 (by decide)) g23 (by decide)), (ext_tr (ext_tr ext_rf xe11) xe24), FK27, by show (s18 601) = s 601 + 4; omega⟩
set_option maxRecDepth 100000 in
set_option maxHeartbeats 4000000 in
theorem g_copy {g : Nat → Int} {Zi : Nat → Option (Nat × (Nat → Int))} {d n q : Nat} {D : Nat → Nat × Nat} {s : Nat → Int} {p : Nat → Nat} {c : Nat → Nat → Int} (hd : 1 ≤ d) (hz : zk Zi) (hq : q + 2 ≤ 400000) (hD : wd n p) (hS : bS s) (hC : bC D c) (hW : wp q g n D p s) (hp0 : s 401 ≤ 32768) : tt Zi d 126 (0, [some (.inr (.inl 6)), some (.inr (.inl 4))], [], n, D, s, p, c) (fun R H => ∃ (n' : Nat) (D' : Nat → Nat × Nat) (s' : Nat → Int) (p' : Nat → Nat) (c' : Nat → Nat → Int), R = .inl none ∧ H = (n', D', s', p', c') ∧ bS s' ∧ bC D' c' ∧ wp q g n' D' p' s' ∧ fr s s' [601] ∧ frp p p' [600] ∧ ext n D n' D' ∧ fk p c n' p' c' [600] ∧ (s' 601 = s 401)) := by
  have b1 := wp_l4 hW
  have b2 := wp_l6 hW
  have hc4 := hW.c4
  have hc6 := hW.c6
  have b3 : 0 ≤ (s 401) ∧ (s 401) ≤ 262144 := hS 401
  refine tt_k 2 (S' := (4, [some (.inr (.inl 6)), some (.inr (.inl 4))], [.inr (.inl (p 600))], n, D, s, p, c)) rfl ?_
  refine tt_len (m := (ln D (p 600))) rfl ((hW).r6.1) rfl ?_
  show tt Zi d 126 (5, [some (.inr (.inl 6)), some (.inr (.inl 4))], [.inl (((ln D (p 600)) : Int))], n, D, s, p, c) _
  refine tt_k 2 (S' := (9, [some (.inr (.inl 6)), some (.inr (.inl 4))], [.inl (s 401), .inl (((ln D (p 600)) : Int))], n, D, s, p, c)) rfl ?_
  refine tb_ge (x := ((ln D (p 600)) : Int)) (y := (s 401)) rfl rfl (by omega) (fun h4 => ?_) (fun h4 => ?_)
  · show tt Zi d 126 (23, [some (.inr (.inl 6)), some (.inr (.inl 4))], [], n, D, s, p, c) _
    refine tt_k 8 (S' := (37, [some (.inr (.inl 6)), some (.inr (.inl 4))], [.inl (s 401), .inl 0, .inr (.inl (p 600)), .inl 0, .inr (.inl (p 400))], n, D, s, p, c)) rfl ?_
    refine tt_cpb (a := (p 400)) (b := (p 600)) (t := 1) (n0 := (ln D (p 400))) (n1 := (ln D (p 600))) (lo := -128) (hi := 127) (k := (s 401)) (dp := 0) (sp := 0) rfl rfl ((hW).r4.1) ((hW).r6.1) (by decide) (Nat.le_of_ble_eq_true rfl) (by omega) hC ((hW).r4.2) ((hW).r6.2) (Or.inr ⟨rfl, rfl⟩) ?_
    intro c5 hC5 ec5
    show tt Zi d 126 (40, [some (.inr (.inl 6)), some (.inr (.inl 4))], [], n, D, s, p, c5) _
    have FK6 : fk p c n p c5 [600] := fk_st (k := 600) (fk_rf hD) ec5 (by decide) rfl
    refine tt_k 4 (S' := (48, [some (.inr (.inl 6)), some (.inr (.inl 4))], [], n, D, (us s 601 (s 401)), p, c5)) rfl ?_
    exact tt_rtv rfl rfl ⟨n, D, (us s 601 (s 401)), p, c5, rfl, rfl, (bS_us hS (show 0 ≤ (s 401) ∧ (s 401) ≤ 32768 by omega)), hC5, (wp_c6 hW (show (s 401) ≤ (ln D (p 600) : Int) by omega)), (fr_us (by decide) fr_rf), frp_rf, ext_rf, FK6, by show (s 401) = s 401; omega⟩
  · show tt Zi d 126 (12, [some (.inr (.inl 6)), some (.inr (.inl 4))], [], n, D, s, p, c) _
    refine tt_k 3 (S' := (17, [some (.inr (.inl 6)), some (.inr (.inl 4))], [.inr (.inl (p 400)), .inr (.inl 6)], n, D, s, p, c)) rfl ?_
    refine tt_len (m := (ln D (p 400))) rfl ((hW).r4.1) rfl ?_
    show tt Zi d 126 (18, [some (.inr (.inl 6)), some (.inr (.inl 4))], [.inl (((ln D (p 400)) : Int)), .inr (.inl 6)], n, D, s, p, c) _
    have hn7 := wp_n hW (by omega)
    refine tt_nwb (x := ((ln D (p 400)) : Int)) (k := 1) rfl rfl (by omega) hC ?_
    intro c8 hC8 ec8
    show tt Zi d 126 (20, [some (.inr (.inl 6)), some (.inr (.inl 4))], [.inr (.inl (48 + n)), .inr (.inl 6)], (n + 1), (ud D (48 + n) (1, (((ln D (p 400)) : Int)).toNat)), s, p, c8) _
    refine tt_k 9 (S' := (37, [some (.inr (.inl 6)), some (.inr (.inl 4))], [.inl (s 401), .inl 0, .inr (.inl (48 + n)), .inl 0, .inr (.inl (p 400))], (n + 1), (ud D (48 + n) (1, (((ln D (p 400)) : Int)).toNat)), s, (up p 600 (48 + n)), c8)) rfl ?_
    refine tt_cpb (a := (p 400)) (b := (48 + n)) (t := 1) (n0 := (ln D (p 400))) (n1 := (((ln D (p 400)) : Int)).toNat) (lo := -128) (hi := 127) (k := (s 401)) (dp := 0) (sp := 0) rfl rfl (ext_arr ext_1 (hW).r4.1) (arr_nw (by omega)) (by decide) (Nat.le_of_ble_eq_true rfl) (by omega) hC8 (ext_byt ext_1 (hW).r4).2 lo_nw1 (Or.inr ⟨rfl, rfl⟩) ?_
    intro c9 hC9 ec9
    show tt Zi d 126 (40, [some (.inr (.inl 6)), some (.inr (.inl 4))], [], (n + 1), (ud D (48 + n) (1, (((ln D (p 400)) : Int)).toNat)), s, (up p 600 (48 + n)), c9) _
    have FK10 : fk p c (n + 1) (up p 600 (48 + n)) c9 [600] := fk_st (k := 600) (fk_np (k := 600) (fk_rf hD) (by decide) ec8) ec9 (by decide) rfl
    refine tt_k 4 (S' := (48, [some (.inr (.inl 6)), some (.inr (.inl 4))], [], (n + 1), (ud D (48 + n) (1, (((ln D (p 400)) : Int)).toNat)), (us s 601 (s 401)), (up p 600 (48 + n)), c9)) rfl ?_
    exact tt_rtv rfl rfl ⟨(n + 1), (ud D (48 + n) (1, (((ln D (p 400)) : Int)).toNat)), (us s 601 (s 401)), (up p 600 (48 + n)), c9, rfl, rfl, (bS_us hS (show 0 ≤ (s 401) ∧ (s 401) ≤ 32768 by omega)), hC9, (wp_c6 (wp_cp6 hW (by omega) (by omega) (by omega)) (show (s 401) ≤ (ln (ud D (48 + n) (1, (((ln D (p 400)) : Int)).toNat)) (48 + n) : Int) by rw [ln_nw]; omega)), (fr_us (by decide) fr_rf), (frp_up (by decide) frp_rf), (ext_tr ext_rf ext_1), FK10, by show (s 401) = s 401; omega⟩
set_option maxRecDepth 100000 in
set_option maxHeartbeats 4000000 in
theorem g_reshape1 {g : Nat → Int} {Zi : Nat → Option (Nat × (Nat → Int))} {d n q : Nat} {D : Nat → Nat × Nat} {s : Nat → Int} {p : Nat → Nat} {c : Nat → Nat → Int} (hd : 1 ≤ d) (hz : zk Zi) (hq : q + 2 ≤ 400000) (hD : wd n p) (hS : bS s) (hC : bC D c) (hW : wp q g n D p s) (wi : Int) (hi_ : Int) (pl_ : Int) (dp_ : Int) (b_wi : 1 ≤ wi ∧ wi ≤ 64) (b_hi_ : 1 ≤ hi_ ∧ hi_ ≤ 64) (b_pl_ : 1 ≤ pl_ ∧ pl_ ≤ 3) (b_dp_ : 2 ≤ dp_ ∧ dp_ ≤ 16) : tt Zi d 12 (0, [some (.inr (.inl 1)), some (.inl wi), some (.inl hi_), some (.inl pl_), some (.inl dp_), none], [], n, D, s, p, c) (fun R H => ∃ (n' : Nat) (D' : Nat → Nat × Nat) (s' : Nat → Int) (p' : Nat → Nat) (c' : Nat → Nat → Int), R = .inl none ∧ H = (n', D', s', p', c') ∧ bS s' ∧ bC D' c' ∧ wp q (us (us (us (us g 100 wi) 101 hi_) 102 pl_) 103 dp_) n' D' p' s' ∧ fr s s' [100, 101, 102, 103] ∧ frp p p' [104] ∧ ext n D n' D' ∧ fk p c n' p' c' [104] ∧ (s' 100 = wi) ∧ (s' 101 = hi_) ∧ (s' 102 = pl_) ∧ (s' 103 = dp_) ∧ (∀ i : Nat, (i : Int) < wi * hi_ * pl_ → c' (p' 104) i = 0)) := by
  have b1 : ln D (p 104) ≤ 12288 := (hW).p1.2.2
  have hm1 := mul_bd (e := wi) (st := hi_) (a := 64) (b := 64) (by omega) (by omega) (by omega) (by omega) (by omega)
  have hm2 := mul_bd (e := wi * hi_) (st := pl_) (a := 4096) (b := 3) (by omega) (by omega) (by omega) (by omega) (by omega)
  have hm3 : 0 ≤ wi * hi_ * pl_ := Int.mul_nonneg (Int.mul_nonneg (by omega) (by omega)) (by omega)
  refine tt_k 14 (S' := (23, [some (.inr (.inl 1)), some (.inl wi), some (.inl hi_), some (.inl pl_), some (.inl dp_), none], [.inl hi_, .inl wi], n, D, (us (us (us (us s 100 wi) 101 hi_) 102 pl_) 103 dp_), p, c)) rfl ?_
  refine tt_k 6 (S' := (32, [some (.inr (.inl 1)), some (.inl wi), some (.inl hi_), some (.inl pl_), some (.inl dp_), some (.inl ((wi * hi_) * pl_))], [.inr (.inl (p 104))], n, D, (us (us (us (us s 100 wi) 101 hi_) 102 pl_) 103 dp_), p, c)) rfl ?_
  refine tt_len (m := (ln D (p 104))) rfl ((hW).p1.1) rfl ?_
  show tt Zi d 12 (33, [some (.inr (.inl 1)), some (.inl wi), some (.inl hi_), some (.inl pl_), some (.inl dp_), some (.inl ((wi * hi_) * pl_))], [.inl (((ln D (p 104)) : Int))], n, D, (us (us (us (us s 100 wi) 101 hi_) 102 pl_) 103 dp_), p, c) _
  refine tt_k 1 (S' := (35, [some (.inr (.inl 1)), some (.inl wi), some (.inl hi_), some (.inl pl_), some (.inl dp_), some (.inl ((wi * hi_) * pl_))], [.inl ((wi * hi_) * pl_), .inl (((ln D (p 104)) : Int))], n, D, (us (us (us (us s 100 wi) 101 hi_) 102 pl_) 103 dp_), p, c)) rfl ?_
  refine tb_ge (x := ((ln D (p 104)) : Int)) (y := ((wi * hi_) * pl_)) rfl rfl (by omega) (fun h2 => ?_) (fun h2 => ?_)
  · show tt Zi d 12 (65, [some (.inr (.inl 1)), some (.inl wi), some (.inl hi_), some (.inl pl_), some (.inl dp_), some (.inl ((wi * hi_) * pl_))], [], n, D, (us (us (us (us s 100 wi) 101 hi_) 102 pl_) 103 dp_), p, c) _
    refine tt_k 3 (S' := (70, [some (.inr (.inl 1)), some (.inl wi), some (.inl hi_), some (.inl pl_), some (.inl dp_), some (.inl ((wi * hi_) * pl_))], [.inl 0, .inr (.inl (p 104))], n, D, (us (us (us (us s 100 wi) 101 hi_) 102 pl_) 103 dp_), p, c)) rfl ?_
    refine tt_cl (by omega) rfl (g_fill (A := (p 104)) (m := (ln D (p 104))) (s := (us (us (us (us s 100 wi) 101 hi_) 102 pl_) 103 dp_)) (p := p) ((hW).p1.1) (by omega) (by rw [(show bC_lo D (p 104) = 0 ∧ bC_hi D (p 104) = 65535 from ((hW).p1.2.1)).1, (show bC_lo D (p 104) = 0 ∧ bC_hi D (p 104) = 65535 from ((hW).p1.2.1)).2]; decide) hC) ?_
    rintro _ _ ⟨c3, rfl, rfl, hC3, fc3, ec3, zc3⟩
    show tt Zi d 12 (73, [some (.inr (.inl 1)), some (.inl wi), some (.inl hi_), some (.inl pl_), some (.inl dp_), some (.inl ((wi * hi_) * pl_))], [], n, D, (us (us (us (us s 100 wi) 101 hi_) 102 pl_) 103 dp_), p, c3) _
    have FK4 : fk p c n p c3 [104] := fk_st (k := 104) (fk_rf hD) ec3 (by decide) rfl
    exact tt_rtv rfl rfl ⟨n, D, (us (us (us (us s 100 wi) 101 hi_) 102 pl_) 103 dp_), p, c3, rfl, rfl, (bS_us (bS_us (bS_us (bS_us hS (show 1 ≤ wi ∧ wi ≤ 64 by omega)) (show 1 ≤ hi_ ∧ hi_ ≤ 64 by omega)) (show 1 ≤ pl_ ∧ pl_ ≤ 3 by omega)) (show 2 ≤ dp_ ∧ dp_ ≤ 16 by omega)), hC3, (wp_rz1 hW (by omega)), (fr_us (by decide) (fr_us (by decide) (fr_us (by decide) (fr_us (by decide) fr_rf)))), frp_rf, ext_rf, FK4, rfl, rfl, rfl, rfl, by show ∀ i : Nat, (i : Int) < wi * hi_ * pl_ → c3 (p 104) i = 0; intro i hi; rw [ec3, uc_eq]; exact zc3 i (by omega)⟩
  · show tt Zi d 12 (38, [some (.inr (.inl 1)), some (.inl wi), some (.inl hi_), some (.inl pl_), some (.inl dp_), some (.inl ((wi * hi_) * pl_))], [], n, D, (us (us (us (us s 100 wi) 101 hi_) 102 pl_) 103 dp_), p, c) _
    refine tt_k 6 (S' := (49, [some (.inr (.inl 1)), some (.inl wi), some (.inl hi_), some (.inl pl_), some (.inl dp_), some (.inl ((wi * hi_) * pl_))], [.inr (.inl (p 104)), .inl 2, .inl ((wi * hi_) * pl_), .inl 12288, .inr (.inl 1)], n, D, (us (us (us (us s 100 wi) 101 hi_) 102 pl_) 103 dp_), p, c)) rfl ?_
    refine tt_len (m := (ln D (p 104))) rfl ((hW).p1.1) rfl ?_
    show tt Zi d 12 (50, [some (.inr (.inl 1)), some (.inl wi), some (.inl hi_), some (.inl pl_), some (.inl dp_), some (.inl ((wi * hi_) * pl_))], [.inl (((ln D (p 104)) : Int)), .inl 2, .inl ((wi * hi_) * pl_), .inl 12288, .inr (.inl 1)], n, D, (us (us (us (us s 100 wi) 101 hi_) 102 pl_) 103 dp_), p, c) _
    refine tt_k 1 (S' := (51, [some (.inr (.inl 1)), some (.inl wi), some (.inl hi_), some (.inl pl_), some (.inl dp_), some (.inl ((wi * hi_) * pl_))], [.inl ((2 * ((ln D (p 104)) : Int))), .inl ((wi * hi_) * pl_), .inl 12288, .inr (.inl 1)], n, D, (us (us (us (us s 100 wi) 101 hi_) 102 pl_) 103 dp_), p, c)) rfl ?_
    refine tt_max (k := 0) (x := ((wi * hi_) * pl_)) (y := (2 * ((ln D (p 104)) : Int))) rfl rfl (Nat.le_of_ble_eq_true rfl) (by omega) ?_
    refine tt_min (k := 0) (x := 12288) (y := (max ((wi * hi_) * pl_) (2 * ((ln D (p 104)) : Int)))) rfl rfl (Nat.le_of_ble_eq_true rfl) (by omega) ?_
    have hn5 := wp_n hW (by omega)
    refine tt_nwb (x := (min 12288 (max ((wi * hi_) * pl_) (2 * ((ln D (p 104)) : Int))))) (k := 0) rfl rfl (by omega) hC ?_
    intro c6 hC6 ec6
    show tt Zi d 12 (59, [some (.inr (.inl 1)), some (.inl wi), some (.inl hi_), some (.inl pl_), some (.inl dp_), some (.inl ((wi * hi_) * pl_))], [.inr (.inl (48 + n)), .inr (.inl 1)], (n + 1), (ud D (48 + n) (0, ((min 12288 (max ((wi * hi_) * pl_) (2 * ((ln D (p 104)) : Int))))).toNat)), (us (us (us (us s 100 wi) 101 hi_) 102 pl_) 103 dp_), p, c6) _
    refine tt_k 2 (S' := (73, [some (.inr (.inl 1)), some (.inl wi), some (.inl hi_), some (.inl pl_), some (.inl dp_), some (.inl ((wi * hi_) * pl_))], [], (n + 1), (ud D (48 + n) (0, ((min 12288 (max ((wi * hi_) * pl_) (2 * ((ln D (p 104)) : Int))))).toNat)), (us (us (us (us s 100 wi) 101 hi_) 102 pl_) 103 dp_), (up p 104 (48 + n)), c6)) rfl ?_
    exact tt_rtv rfl rfl ⟨(n + 1), (ud D (48 + n) (0, ((min 12288 (max ((wi * hi_) * pl_) (2 * ((ln D (p 104)) : Int))))).toNat)), (us (us (us (us s 100 wi) 101 hi_) 102 pl_) 103 dp_), (up p 104 (48 + n)), c6, rfl, rfl, (bS_us (bS_us (bS_us (bS_us hS (show 1 ≤ wi ∧ wi ≤ 64 by omega)) (show 1 ≤ hi_ ∧ hi_ ≤ 64 by omega)) (show 1 ≤ pl_ ∧ pl_ ≤ 3 by omega)) (show 2 ≤ dp_ ∧ dp_ ≤ 16 by omega)), hC6, (wp_rs1 hW (by omega) (by omega) (by omega) (by omega) (by omega) (by omega)), (fr_us (by decide) (fr_us (by decide) (fr_us (by decide) (fr_us (by decide) fr_rf)))), (frp_up (by decide) frp_rf), (ext_tr ext_rf ext_1), (fk_np (k := 104) (fk_rf hD) (by decide) ec6), rfl, rfl, rfl, rfl, by show ∀ i : Nat, (i : Int) < wi * hi_ * pl_ → c6 (48 + n) i = 0; intro i hi; rw [ec6, uc_eq]⟩
set_option maxRecDepth 100000 in
set_option maxHeartbeats 4000000 in
theorem g_reshape25 {g : Nat → Int} {Zi : Nat → Option (Nat × (Nat → Int))} {d n q : Nat} {D : Nat → Nat × Nat} {s : Nat → Int} {p : Nat → Nat} {c : Nat → Nat → Int} (hd : 1 ≤ d) (hz : zk Zi) (hq : q + 2 ≤ 400000) (hD : wd n p) (hS : bS s) (hC : bC D c) (hW : wp q g n D p s) (wi : Int) (hi_ : Int) (pl_ : Int) (dp_ : Int) (b_wi : 1 ≤ wi ∧ wi ≤ 64) (b_hi_ : 1 ≤ hi_ ∧ hi_ ≤ 64) (b_pl_ : 1 ≤ pl_ ∧ pl_ ≤ 3) (b_dp_ : 2 ≤ dp_ ∧ dp_ ≤ 16) : tt Zi d 12 (0, [some (.inr (.inl 25)), some (.inl wi), some (.inl hi_), some (.inl pl_), some (.inl dp_), none], [], n, D, s, p, c) (fun R H => ∃ (n' : Nat) (D' : Nat → Nat × Nat) (s' : Nat → Int) (p' : Nat → Nat) (c' : Nat → Nat → Int), R = .inl none ∧ H = (n', D', s', p', c') ∧ bS s' ∧ bC D' c' ∧ wp q g n' D' p' s' ∧ fr s s' [2500, 2501, 2502, 2503] ∧ frp p p' [2504] ∧ ext n D n' D' ∧ fk p c n' p' c' [2504] ∧ (s' 2500 = wi) ∧ (s' 2501 = hi_) ∧ (s' 2502 = pl_) ∧ (s' 2503 = dp_) ∧ (∀ i : Nat, (i : Int) < wi * hi_ * pl_ → c' (p' 2504) i = 0)) := by
  have b1 : ln D (p 2504) ≤ 12288 := (hW).p25.2.2
  have hm1 := mul_bd (e := wi) (st := hi_) (a := 64) (b := 64) (by omega) (by omega) (by omega) (by omega) (by omega)
  have hm2 := mul_bd (e := wi * hi_) (st := pl_) (a := 4096) (b := 3) (by omega) (by omega) (by omega) (by omega) (by omega)
  have hm3 : 0 ≤ wi * hi_ * pl_ := Int.mul_nonneg (Int.mul_nonneg (by omega) (by omega)) (by omega)
  refine tt_k 14 (S' := (23, [some (.inr (.inl 25)), some (.inl wi), some (.inl hi_), some (.inl pl_), some (.inl dp_), none], [.inl hi_, .inl wi], n, D, (us (us (us (us s 2500 wi) 2501 hi_) 2502 pl_) 2503 dp_), p, c)) rfl ?_
  refine tt_k 6 (S' := (32, [some (.inr (.inl 25)), some (.inl wi), some (.inl hi_), some (.inl pl_), some (.inl dp_), some (.inl ((wi * hi_) * pl_))], [.inr (.inl (p 2504))], n, D, (us (us (us (us s 2500 wi) 2501 hi_) 2502 pl_) 2503 dp_), p, c)) rfl ?_
  refine tt_len (m := (ln D (p 2504))) rfl ((hW).p25.1) rfl ?_
  show tt Zi d 12 (33, [some (.inr (.inl 25)), some (.inl wi), some (.inl hi_), some (.inl pl_), some (.inl dp_), some (.inl ((wi * hi_) * pl_))], [.inl (((ln D (p 2504)) : Int))], n, D, (us (us (us (us s 2500 wi) 2501 hi_) 2502 pl_) 2503 dp_), p, c) _
  refine tt_k 1 (S' := (35, [some (.inr (.inl 25)), some (.inl wi), some (.inl hi_), some (.inl pl_), some (.inl dp_), some (.inl ((wi * hi_) * pl_))], [.inl ((wi * hi_) * pl_), .inl (((ln D (p 2504)) : Int))], n, D, (us (us (us (us s 2500 wi) 2501 hi_) 2502 pl_) 2503 dp_), p, c)) rfl ?_
  refine tb_ge (x := ((ln D (p 2504)) : Int)) (y := ((wi * hi_) * pl_)) rfl rfl (by omega) (fun h2 => ?_) (fun h2 => ?_)
  · show tt Zi d 12 (65, [some (.inr (.inl 25)), some (.inl wi), some (.inl hi_), some (.inl pl_), some (.inl dp_), some (.inl ((wi * hi_) * pl_))], [], n, D, (us (us (us (us s 2500 wi) 2501 hi_) 2502 pl_) 2503 dp_), p, c) _
    refine tt_k 3 (S' := (70, [some (.inr (.inl 25)), some (.inl wi), some (.inl hi_), some (.inl pl_), some (.inl dp_), some (.inl ((wi * hi_) * pl_))], [.inl 0, .inr (.inl (p 2504))], n, D, (us (us (us (us s 2500 wi) 2501 hi_) 2502 pl_) 2503 dp_), p, c)) rfl ?_
    refine tt_cl (by omega) rfl (g_fill (A := (p 2504)) (m := (ln D (p 2504))) (s := (us (us (us (us s 2500 wi) 2501 hi_) 2502 pl_) 2503 dp_)) (p := p) ((hW).p25.1) (by omega) (by rw [(show bC_lo D (p 2504) = 0 ∧ bC_hi D (p 2504) = 65535 from ((hW).p25.2.1)).1, (show bC_lo D (p 2504) = 0 ∧ bC_hi D (p 2504) = 65535 from ((hW).p25.2.1)).2]; decide) hC) ?_
    rintro _ _ ⟨c3, rfl, rfl, hC3, fc3, ec3, zc3⟩
    show tt Zi d 12 (73, [some (.inr (.inl 25)), some (.inl wi), some (.inl hi_), some (.inl pl_), some (.inl dp_), some (.inl ((wi * hi_) * pl_))], [], n, D, (us (us (us (us s 2500 wi) 2501 hi_) 2502 pl_) 2503 dp_), p, c3) _
    have FK4 : fk p c n p c3 [2504] := fk_st (k := 2504) (fk_rf hD) ec3 (by decide) rfl
    exact tt_rtv rfl rfl ⟨n, D, (us (us (us (us s 2500 wi) 2501 hi_) 2502 pl_) 2503 dp_), p, c3, rfl, rfl, (bS_us (bS_us (bS_us (bS_us hS (show 0 ≤ wi ∧ wi ≤ 64 by omega)) (show 0 ≤ hi_ ∧ hi_ ≤ 64 by omega)) (show 0 ≤ pl_ ∧ pl_ ≤ 3 by omega)) (show 0 ≤ dp_ ∧ dp_ ≤ 16 by omega)), hC3, (wp_rz25 hW (by omega)), (fr_us (by decide) (fr_us (by decide) (fr_us (by decide) (fr_us (by decide) fr_rf)))), frp_rf, ext_rf, FK4, rfl, rfl, rfl, rfl, by show ∀ i : Nat, (i : Int) < wi * hi_ * pl_ → c3 (p 2504) i = 0; intro i hi; rw [ec3, uc_eq]; exact zc3 i (by omega)⟩
  · show tt Zi d 12 (38, [some (.inr (.inl 25)), some (.inl wi), some (.inl hi_), some (.inl pl_), some (.inl dp_), some (.inl ((wi * hi_) * pl_))], [], n, D, (us (us (us (us s 2500 wi) 2501 hi_) 2502 pl_) 2503 dp_), p, c) _
    refine tt_k 6 (S' := (49, [some (.inr (.inl 25)), some (.inl wi), some (.inl hi_), some (.inl pl_), some (.inl dp_), some (.inl ((wi * hi_) * pl_))], [.inr (.inl (p 2504)), .inl 2, .inl ((wi * hi_) * pl_), .inl 12288, .inr (.inl 25)], n, D, (us (us (us (us s 2500 wi) 2501 hi_) 2502 pl_) 2503 dp_), p, c)) rfl ?_
    refine tt_len (m := (ln D (p 2504))) rfl ((hW).p25.1) rfl ?_
    show tt Zi d 12 (50, [some (.inr (.inl 25)), some (.inl wi), some (.inl hi_), some (.inl pl_), some (.inl dp_), some (.inl ((wi * hi_) * pl_))], [.inl (((ln D (p 2504)) : Int)), .inl 2, .inl ((wi * hi_) * pl_), .inl 12288, .inr (.inl 25)], n, D, (us (us (us (us s 2500 wi) 2501 hi_) 2502 pl_) 2503 dp_), p, c) _
    refine tt_k 1 (S' := (51, [some (.inr (.inl 25)), some (.inl wi), some (.inl hi_), some (.inl pl_), some (.inl dp_), some (.inl ((wi * hi_) * pl_))], [.inl ((2 * ((ln D (p 2504)) : Int))), .inl ((wi * hi_) * pl_), .inl 12288, .inr (.inl 25)], n, D, (us (us (us (us s 2500 wi) 2501 hi_) 2502 pl_) 2503 dp_), p, c)) rfl ?_
    refine tt_max (k := 0) (x := ((wi * hi_) * pl_)) (y := (2 * ((ln D (p 2504)) : Int))) rfl rfl (Nat.le_of_ble_eq_true rfl) (by omega) ?_
    refine tt_min (k := 0) (x := 12288) (y := (max ((wi * hi_) * pl_) (2 * ((ln D (p 2504)) : Int)))) rfl rfl (Nat.le_of_ble_eq_true rfl) (by omega) ?_
    have hn5 := wp_n hW (by omega)
    refine tt_nwb (x := (min 12288 (max ((wi * hi_) * pl_) (2 * ((ln D (p 2504)) : Int))))) (k := 0) rfl rfl (by omega) hC ?_
    intro c6 hC6 ec6
    show tt Zi d 12 (59, [some (.inr (.inl 25)), some (.inl wi), some (.inl hi_), some (.inl pl_), some (.inl dp_), some (.inl ((wi * hi_) * pl_))], [.inr (.inl (48 + n)), .inr (.inl 25)], (n + 1), (ud D (48 + n) (0, ((min 12288 (max ((wi * hi_) * pl_) (2 * ((ln D (p 2504)) : Int))))).toNat)), (us (us (us (us s 2500 wi) 2501 hi_) 2502 pl_) 2503 dp_), p, c6) _
    refine tt_k 2 (S' := (73, [some (.inr (.inl 25)), some (.inl wi), some (.inl hi_), some (.inl pl_), some (.inl dp_), some (.inl ((wi * hi_) * pl_))], [], (n + 1), (ud D (48 + n) (0, ((min 12288 (max ((wi * hi_) * pl_) (2 * ((ln D (p 2504)) : Int))))).toNat)), (us (us (us (us s 2500 wi) 2501 hi_) 2502 pl_) 2503 dp_), (up p 2504 (48 + n)), c6)) rfl ?_
    exact tt_rtv rfl rfl ⟨(n + 1), (ud D (48 + n) (0, ((min 12288 (max ((wi * hi_) * pl_) (2 * ((ln D (p 2504)) : Int))))).toNat)), (us (us (us (us s 2500 wi) 2501 hi_) 2502 pl_) 2503 dp_), (up p 2504 (48 + n)), c6, rfl, rfl, (bS_us (bS_us (bS_us (bS_us hS (show 0 ≤ wi ∧ wi ≤ 64 by omega)) (show 0 ≤ hi_ ∧ hi_ ≤ 64 by omega)) (show 0 ≤ pl_ ∧ pl_ ≤ 3 by omega)) (show 0 ≤ dp_ ∧ dp_ ≤ 16 by omega)), hC6, (wp_rs25 hW (by omega) (by omega) (by omega) (by omega) (by omega) (by omega)), (fr_us (by decide) (fr_us (by decide) (fr_us (by decide) (fr_us (by decide) fr_rf)))), (frp_up (by decide) frp_rf), (ext_tr ext_rf ext_1), (fk_np (k := 2504) (fk_rf hD) (by decide) ec6), rfl, rfl, rfl, rfl, by show ∀ i : Nat, (i : Int) < wi * hi_ * pl_ → c6 (48 + n) i = 0; intro i hi; rw [ec6, uc_eq]⟩
set_option maxRecDepth 100000 in
set_option maxHeartbeats 4000000 in
theorem g_reshape27 {g : Nat → Int} {Zi : Nat → Option (Nat × (Nat → Int))} {d n q : Nat} {D : Nat → Nat × Nat} {s : Nat → Int} {p : Nat → Nat} {c : Nat → Nat → Int} (hd : 1 ≤ d) (hz : zk Zi) (hq : q + 2 ≤ 400000) (hD : wd n p) (hS : bS s) (hC : bC D c) (hW : wp q g n D p s) (wi : Int) (hi_ : Int) (pl_ : Int) (dp_ : Int) (b_wi : 1 ≤ wi ∧ wi ≤ 64) (b_hi_ : 1 ≤ hi_ ∧ hi_ ≤ 64) (b_pl_ : 1 ≤ pl_ ∧ pl_ ≤ 3) (b_dp_ : 2 ≤ dp_ ∧ dp_ ≤ 16) : tt Zi d 12 (0, [some (.inr (.inl 27)), some (.inl wi), some (.inl hi_), some (.inl pl_), some (.inl dp_), none], [], n, D, s, p, c) (fun R H => ∃ (n' : Nat) (D' : Nat → Nat × Nat) (s' : Nat → Int) (p' : Nat → Nat) (c' : Nat → Nat → Int), R = .inl none ∧ H = (n', D', s', p', c') ∧ bS s' ∧ bC D' c' ∧ wp q g n' D' p' s' ∧ fr s s' [2700, 2701, 2702, 2703] ∧ frp p p' [2704] ∧ ext n D n' D' ∧ fk p c n' p' c' [2704] ∧ (s' 2700 = wi) ∧ (s' 2701 = hi_) ∧ (s' 2702 = pl_) ∧ (s' 2703 = dp_) ∧ (∀ i : Nat, (i : Int) < wi * hi_ * pl_ → c' (p' 2704) i = 0)) := by
  have b1 : ln D (p 2704) ≤ 12288 := (hW).p27.2.2
  have hm1 := mul_bd (e := wi) (st := hi_) (a := 64) (b := 64) (by omega) (by omega) (by omega) (by omega) (by omega)
  have hm2 := mul_bd (e := wi * hi_) (st := pl_) (a := 4096) (b := 3) (by omega) (by omega) (by omega) (by omega) (by omega)
  have hm3 : 0 ≤ wi * hi_ * pl_ := Int.mul_nonneg (Int.mul_nonneg (by omega) (by omega)) (by omega)
  refine tt_k 14 (S' := (23, [some (.inr (.inl 27)), some (.inl wi), some (.inl hi_), some (.inl pl_), some (.inl dp_), none], [.inl hi_, .inl wi], n, D, (us (us (us (us s 2700 wi) 2701 hi_) 2702 pl_) 2703 dp_), p, c)) rfl ?_
  refine tt_k 6 (S' := (32, [some (.inr (.inl 27)), some (.inl wi), some (.inl hi_), some (.inl pl_), some (.inl dp_), some (.inl ((wi * hi_) * pl_))], [.inr (.inl (p 2704))], n, D, (us (us (us (us s 2700 wi) 2701 hi_) 2702 pl_) 2703 dp_), p, c)) rfl ?_
  refine tt_len (m := (ln D (p 2704))) rfl ((hW).p27.1) rfl ?_
  show tt Zi d 12 (33, [some (.inr (.inl 27)), some (.inl wi), some (.inl hi_), some (.inl pl_), some (.inl dp_), some (.inl ((wi * hi_) * pl_))], [.inl (((ln D (p 2704)) : Int))], n, D, (us (us (us (us s 2700 wi) 2701 hi_) 2702 pl_) 2703 dp_), p, c) _
  refine tt_k 1 (S' := (35, [some (.inr (.inl 27)), some (.inl wi), some (.inl hi_), some (.inl pl_), some (.inl dp_), some (.inl ((wi * hi_) * pl_))], [.inl ((wi * hi_) * pl_), .inl (((ln D (p 2704)) : Int))], n, D, (us (us (us (us s 2700 wi) 2701 hi_) 2702 pl_) 2703 dp_), p, c)) rfl ?_
  refine tb_ge (x := ((ln D (p 2704)) : Int)) (y := ((wi * hi_) * pl_)) rfl rfl (by omega) (fun h2 => ?_) (fun h2 => ?_)
  · show tt Zi d 12 (65, [some (.inr (.inl 27)), some (.inl wi), some (.inl hi_), some (.inl pl_), some (.inl dp_), some (.inl ((wi * hi_) * pl_))], [], n, D, (us (us (us (us s 2700 wi) 2701 hi_) 2702 pl_) 2703 dp_), p, c) _
    refine tt_k 3 (S' := (70, [some (.inr (.inl 27)), some (.inl wi), some (.inl hi_), some (.inl pl_), some (.inl dp_), some (.inl ((wi * hi_) * pl_))], [.inl 0, .inr (.inl (p 2704))], n, D, (us (us (us (us s 2700 wi) 2701 hi_) 2702 pl_) 2703 dp_), p, c)) rfl ?_
    refine tt_cl (by omega) rfl (g_fill (A := (p 2704)) (m := (ln D (p 2704))) (s := (us (us (us (us s 2700 wi) 2701 hi_) 2702 pl_) 2703 dp_)) (p := p) ((hW).p27.1) (by omega) (by rw [(show bC_lo D (p 2704) = 0 ∧ bC_hi D (p 2704) = 65535 from ((hW).p27.2.1)).1, (show bC_lo D (p 2704) = 0 ∧ bC_hi D (p 2704) = 65535 from ((hW).p27.2.1)).2]; decide) hC) ?_
    rintro _ _ ⟨c3, rfl, rfl, hC3, fc3, ec3, zc3⟩
    show tt Zi d 12 (73, [some (.inr (.inl 27)), some (.inl wi), some (.inl hi_), some (.inl pl_), some (.inl dp_), some (.inl ((wi * hi_) * pl_))], [], n, D, (us (us (us (us s 2700 wi) 2701 hi_) 2702 pl_) 2703 dp_), p, c3) _
    have FK4 : fk p c n p c3 [2704] := fk_st (k := 2704) (fk_rf hD) ec3 (by decide) rfl
    exact tt_rtv rfl rfl ⟨n, D, (us (us (us (us s 2700 wi) 2701 hi_) 2702 pl_) 2703 dp_), p, c3, rfl, rfl, (bS_us (bS_us (bS_us (bS_us hS (show 0 ≤ wi ∧ wi ≤ 64 by omega)) (show 0 ≤ hi_ ∧ hi_ ≤ 64 by omega)) (show 0 ≤ pl_ ∧ pl_ ≤ 3 by omega)) (show 0 ≤ dp_ ∧ dp_ ≤ 16 by omega)), hC3, (wp_rz27 hW (by omega)), (fr_us (by decide) (fr_us (by decide) (fr_us (by decide) (fr_us (by decide) fr_rf)))), frp_rf, ext_rf, FK4, rfl, rfl, rfl, rfl, by show ∀ i : Nat, (i : Int) < wi * hi_ * pl_ → c3 (p 2704) i = 0; intro i hi; rw [ec3, uc_eq]; exact zc3 i (by omega)⟩
  · show tt Zi d 12 (38, [some (.inr (.inl 27)), some (.inl wi), some (.inl hi_), some (.inl pl_), some (.inl dp_), some (.inl ((wi * hi_) * pl_))], [], n, D, (us (us (us (us s 2700 wi) 2701 hi_) 2702 pl_) 2703 dp_), p, c) _
    refine tt_k 6 (S' := (49, [some (.inr (.inl 27)), some (.inl wi), some (.inl hi_), some (.inl pl_), some (.inl dp_), some (.inl ((wi * hi_) * pl_))], [.inr (.inl (p 2704)), .inl 2, .inl ((wi * hi_) * pl_), .inl 12288, .inr (.inl 27)], n, D, (us (us (us (us s 2700 wi) 2701 hi_) 2702 pl_) 2703 dp_), p, c)) rfl ?_
    refine tt_len (m := (ln D (p 2704))) rfl ((hW).p27.1) rfl ?_
    show tt Zi d 12 (50, [some (.inr (.inl 27)), some (.inl wi), some (.inl hi_), some (.inl pl_), some (.inl dp_), some (.inl ((wi * hi_) * pl_))], [.inl (((ln D (p 2704)) : Int)), .inl 2, .inl ((wi * hi_) * pl_), .inl 12288, .inr (.inl 27)], n, D, (us (us (us (us s 2700 wi) 2701 hi_) 2702 pl_) 2703 dp_), p, c) _
    refine tt_k 1 (S' := (51, [some (.inr (.inl 27)), some (.inl wi), some (.inl hi_), some (.inl pl_), some (.inl dp_), some (.inl ((wi * hi_) * pl_))], [.inl ((2 * ((ln D (p 2704)) : Int))), .inl ((wi * hi_) * pl_), .inl 12288, .inr (.inl 27)], n, D, (us (us (us (us s 2700 wi) 2701 hi_) 2702 pl_) 2703 dp_), p, c)) rfl ?_
    refine tt_max (k := 0) (x := ((wi * hi_) * pl_)) (y := (2 * ((ln D (p 2704)) : Int))) rfl rfl (Nat.le_of_ble_eq_true rfl) (by omega) ?_
    refine tt_min (k := 0) (x := 12288) (y := (max ((wi * hi_) * pl_) (2 * ((ln D (p 2704)) : Int)))) rfl rfl (Nat.le_of_ble_eq_true rfl) (by omega) ?_
    have hn5 := wp_n hW (by omega)
    refine tt_nwb (x := (min 12288 (max ((wi * hi_) * pl_) (2 * ((ln D (p 2704)) : Int))))) (k := 0) rfl rfl (by omega) hC ?_
    intro c6 hC6 ec6
    show tt Zi d 12 (59, [some (.inr (.inl 27)), some (.inl wi), some (.inl hi_), some (.inl pl_), some (.inl dp_), some (.inl ((wi * hi_) * pl_))], [.inr (.inl (48 + n)), .inr (.inl 27)], (n + 1), (ud D (48 + n) (0, ((min 12288 (max ((wi * hi_) * pl_) (2 * ((ln D (p 2704)) : Int))))).toNat)), (us (us (us (us s 2700 wi) 2701 hi_) 2702 pl_) 2703 dp_), p, c6) _
    refine tt_k 2 (S' := (73, [some (.inr (.inl 27)), some (.inl wi), some (.inl hi_), some (.inl pl_), some (.inl dp_), some (.inl ((wi * hi_) * pl_))], [], (n + 1), (ud D (48 + n) (0, ((min 12288 (max ((wi * hi_) * pl_) (2 * ((ln D (p 2704)) : Int))))).toNat)), (us (us (us (us s 2700 wi) 2701 hi_) 2702 pl_) 2703 dp_), (up p 2704 (48 + n)), c6)) rfl ?_
    exact tt_rtv rfl rfl ⟨(n + 1), (ud D (48 + n) (0, ((min 12288 (max ((wi * hi_) * pl_) (2 * ((ln D (p 2704)) : Int))))).toNat)), (us (us (us (us s 2700 wi) 2701 hi_) 2702 pl_) 2703 dp_), (up p 2704 (48 + n)), c6, rfl, rfl, (bS_us (bS_us (bS_us (bS_us hS (show 0 ≤ wi ∧ wi ≤ 64 by omega)) (show 0 ≤ hi_ ∧ hi_ ≤ 64 by omega)) (show 0 ≤ pl_ ∧ pl_ ≤ 3 by omega)) (show 0 ≤ dp_ ∧ dp_ ≤ 16 by omega)), hC6, (wp_rs27 hW (by omega) (by omega) (by omega) (by omega) (by omega) (by omega)), (fr_us (by decide) (fr_us (by decide) (fr_us (by decide) (fr_us (by decide) fr_rf)))), (frp_up (by decide) frp_rf), (ext_tr ext_rf ext_1), (fk_np (k := 2704) (fk_rf hD) (by decide) ec6), rfl, rfl, rfl, rfl, by show ∀ i : Nat, (i : Int) < wi * hi_ * pl_ → c6 (48 + n) i = 0; intro i hi; rw [ec6, uc_eq]⟩
