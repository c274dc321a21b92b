/-! the class's rows of bytes, its bit writer, its pictures' shapes -/
set_option maxRecDepth 100000 in
set_option maxHeartbeats 4000000 in
theorem g_get4 {g : Nat → Int} {Zi : Nat → Option (Nat × (Nat → Int))} {d n q : Nat} {D : Nat → Nat × Nat} {s : Nat → Int} {p : Nat → Nat} {c : Nat → Nat → Int} (hd : 0 ≤ d) (hz : zk Zi) (hq : q + 0 ≤ 400000) (hD : wd n p) (hS : bS s) (hC : bC D c) (hW : wp q g n D p s) (i : Int) (b_i : -2147483648 ≤ i ∧ i ≤ 2147483647) (hp0 : 0 ≤ i ∧ i < (ln D (p 400) : Int)) : tt Zi d 21 (0, [some (.inr (.inl 4)), some (.inl i)], [], n, D, s, p, c) (fun R H => ∃ (r : Int), R = .inl (some (.inl r)) ∧ H = (n, D, s, p, c) ∧ (0 ≤ r ∧ r ≤ 255)) := by
  have b1 := wp_l4 hW
  refine tt_k 3 (S' := (5, [some (.inr (.inl 4)), some (.inl i)], [.inl i, .inr (.inl (p 400))], n, D, s, p, c)) rfl ?_
  refine tt_blb (i := i) (m := (ln D (p 400))) (lo := -128) (hi := 127) rfl ((hW).r4.1) (by omega) hC ((hW).r4.2) ?_
  intro v2 b3 hvv2
  show tt Zi d 21 (6, [some (.inr (.inl 4)), some (.inl i)], [.inl v2], n, D, s, p, c) _
  refine tt_k 2 (S' := (10, [some (.inr (.inl 4)), some (.inl i)], [.inl (mi_and v2 255)], n, D, s, p, c)) rfl ?_
  have e4 := mi_and255 v2
  exact tt_rti rfl rfl ⟨(mi_and v2 255), rfl, rfl, by omega⟩
set_option maxRecDepth 100000 in
set_option maxHeartbeats 4000000 in
theorem g_add4x {g : Nat → Int} {Zi : Nat → Option (Nat × (Nat → Int))} {d n q : Nat} {D : Nat → Nat × Nat} {s : Nat → Int} {p : Nat → Nat} {c : Nat → Nat → Int} (hd : 1 ≤ d) (hz : zk Zi) (hq : q + 2 ≤ 400000) (hD : wd n p) (hS : bS (us s 1602 1)) (hC : bC D c) (hW : wp q g n D p s) (v : Int) (b_v : -2147483648 ≤ v ∧ v ≤ 2147483647) (hp0 : s 401 ≤ 262143) : tt Zi d 48 (0, [some (.inr (.inl 4)), some (.inl v)], [], n, D, s, p, c) (fun R H => ∃ (n' : Nat) (D' : Nat → Nat × Nat) (s' : Nat → Int) (p' : Nat → Nat) (c' : Nat → Nat → Int), R = .inl none ∧ H = (n', D', s', p', c') ∧ bS (us s' 1602 1) ∧ bC D' c' ∧ wp q g n' D' p' s' ∧ fr s s' [401] ∧ frp p p' [400] ∧ ext n D n' D' ∧ fk p c n' p' c' [400] ∧ (s' 401 = s 401 + 1)) := by
  have b1 := wp_l4 hW
  have hc4 := hW.c4
  have b2 : 0 ≤ (s 401) ∧ (s 401) ≤ 262144 := hS 401
  refine tt_k 4 (S' := (8, [some (.inr (.inl 4)), some (.inl v)], [.inr (.inl (p 400)), .inl (s 401)], n, D, s, p, c)) rfl ?_
  refine tt_len (m := (ln D (p 400))) rfl ((hW).r4.1) rfl ?_
  show tt Zi d 48 (9, [some (.inr (.inl 4)), some (.inl v)], [.inl (((ln D (p 400)) : Int)), .inl (s 401)], n, D, s, p, c) _
  refine tb_ne (x := (s 401)) (y := ((ln D (p 400)) : Int)) rfl rfl (by omega) (fun h3 => ?_) (fun h3 => ?_)
  · show tt Zi d 48 (30, [some (.inr (.inl 4)), some (.inl v)], [], n, D, s, p, c) _
    refine tt_k 6 (S' := (40, [some (.inr (.inl 4)), some (.inl v)], [.inl (mi_i2b v), .inl (s 401), .inr (.inl (p 400))], n, D, s, p, c)) rfl ?_
    have e4 := mi_i2b_bd v
    refine tt_bsb (i := (s 401)) (m := (ln D (p 400))) (lo := -128) (hi := 127) (x := (mi_i2b v)) rfl ((hW).r4.1) (by omega) hC ((hW).r4.2) ⟨rfl, rfl⟩ ?_
    intro c5 hC5 ec5
    show tt Zi d 48 (41, [some (.inr (.inl 4)), some (.inl v)], [], n, D, s, p, c5) _
    have FK6 : fk p c n p c5 [400] := fk_st (k := 400) (fk_rf hD) ec5 (by decide) rfl
    refine tt_k 6 (S' := (51, [some (.inr (.inl 4)), some (.inl v)], [], n, D, (us s 401 ((s 401) + 1)), p, c5)) rfl ?_
    exact tt_rtv rfl rfl ⟨n, D, (us s 401 ((s 401) + 1)), p, c5, rfl, rfl, (us_bs (by decide) (bS_us hS (show 0 ≤ ((s 401) + 1) ∧ ((s 401) + 1) ≤ 262144 by omega))), hC5, (wp_c4 hW (show ((s 401) + 1) ≤ (ln D (p 400) : Int) by omega)), (fr_us (by decide) fr_rf), frp_rf, ext_rf, FK6, rfl⟩
  · show tt Zi d 48 (12, [some (.inr (.inl 4)), some (.inl v)], [], n, D, s, p, c) _
    refine tt_k 6 (S' := (22, [some (.inr (.inl 4)), some (.inl v)], [.inr (.inl (p 400)), .inl 2, .inr (.inl (p 400)), .inr (.inl 4)], n, D, s, p, c)) rfl ?_
    refine tt_len (m := (ln D (p 400))) rfl ((hW).r4.1) rfl ?_
    show tt Zi d 48 (23, [some (.inr (.inl 4)), some (.inl v)], [.inl (((ln D (p 400)) : Int)), .inl 2, .inr (.inl (p 400)), .inr (.inl 4)], n, D, s, p, c) _
    refine tt_k 1 (S' := (24, [some (.inr (.inl 4)), some (.inl v)], [.inl ((2 * ((ln D (p 400)) : Int))), .inr (.inl (p 400)), .inr (.inl 4)], n, D, s, p, c)) rfl ?_
    have hn8 := wp_n hW (by omega)
    refine tt_cl (by omega) rfl (g_copyOf (A := (p 400)) (x := (2 * ((ln D (p 400)) : Int))) (s := s) (p := p) (hW).r4 (by omega) (by omega) (by omega) hC) ?_
    rintro _ _ ⟨c7, rfl, rfl, hC7, fc7, ec7, zc7⟩
    show tt Zi d 48 (27, [some (.inr (.inl 4)), some (.inl v)], [.inr (.inl (48 + n)), .inr (.inl 4)], (n + 1), (ud D (48 + n) (1, ((2 * ((ln D (p 400)) : Int))).toNat)), s, p, c7) _
    refine tt_k 7 (S' := (40, [some (.inr (.inl 4)), some (.inl v)], [.inl (mi_i2b v), .inl (s 401), .inr (.inl (48 + n))], (n + 1), (ud D (48 + n) (1, ((2 * ((ln D (p 400)) : Int))).toNat)), s, (up p 400 (48 + n)), c7)) rfl ?_
    have e9 := mi_i2b_bd v
    refine tt_bsb (i := (s 401)) (m := ((2 * ((ln D (p 400)) : Int))).toNat) (lo := -128) (hi := 127) (x := (mi_i2b v)) rfl (arr_nw (by omega)) (by omega) hC7 lo_nw1 ⟨rfl, rfl⟩ ?_
    intro c10 hC10 ec10
    show tt Zi d 48 (41, [some (.inr (.inl 4)), some (.inl v)], [], (n + 1), (ud D (48 + n) (1, ((2 * ((ln D (p 400)) : Int))).toNat)), s, (up p 400 (48 + n)), c10) _
    have FK11 : fk p c (n + 1) (up p 400 (48 + n)) c10 [400] := fk_st (k := 400) (fk_np (k := 400) (fk_rf hD) (by decide) ec7) ec10 (by decide) rfl
    refine tt_k 6 (S' := (51, [some (.inr (.inl 4)), some (.inl v)], [], (n + 1), (ud D (48 + n) (1, ((2 * ((ln D (p 400)) : Int))).toNat)), (us s 401 ((s 401) + 1)), (up p 400 (48 + n)), c10)) rfl ?_
    exact tt_rtv rfl rfl ⟨(n + 1), (ud D (48 + n) (1, ((2 * ((ln D (p 400)) : Int))).toNat)), (us s 401 ((s 401) + 1)), (up p 400 (48 + n)), c10, rfl, rfl, (us_bs (by decide) (bS_us hS (show 0 ≤ ((s 401) + 1) ∧ ((s 401) + 1) ≤ 262144 by omega))), hC10, (wp_c4 (wp_g4 hW (by omega) (by omega) (by omega)) (show ((s 401) + 1) ≤ (ln (ud D (48 + n) (1, ((2 * ((ln D (p 400)) : Int))).toNat)) (48 + n) : Int) by rw [ln_nw]; omega)), (fr_us (by decide) fr_rf), (frp_up (by decide) frp_rf), (ext_tr ext_rf ext_1), FK11, rfl⟩
set_option maxRecDepth 100000 in
set_option maxHeartbeats 4000000 in
theorem g_add4 {g : Nat → Int} {Zi : Nat → Option (Nat × (Nat → Int))} {d n q : Nat} {D : Nat → Nat × Nat} {s : Nat → Int} {p : Nat → Nat} {c : Nat → Nat → Int} (hd : 1 ≤ d) (hz : zk Zi) (hq : q + 2 ≤ 400000) (hD : wd n p) (hS : bS s) (hC : bC D c) (hW : wp q g n D p s) (v : Int) (b_v : -2147483648 ≤ v ∧ v ≤ 2147483647) (hp0 : s 401 ≤ 262143) : tt Zi d 48 (0, [some (.inr (.inl 4)), some (.inl v)], [], n, D, s, p, c) (fun R H => ∃ (n' : Nat) (D' : Nat → Nat × Nat) (s' : Nat → Int) (p' : Nat → Nat) (c' : Nat → Nat → Int), R = .inl none ∧ H = (n', D', s', p', c') ∧ bS s' ∧ bC D' c' ∧ wp q g n' D' p' s' ∧ fr s s' [401] ∧ frp p p' [400] ∧ ext n D n' D' ∧ fk p c n' p' c' [400] ∧ (s' 401 = s 401 + 1)) := by
  have b1 := wp_l4 hW
  have hc4 := hW.c4
  have b2 : 0 ≤ (s 401) ∧ (s 401) ≤ 262144 := hS 401
  refine tt_k 4 (S' := (8, [some (.inr (.inl 4)), some (.inl v)], [.inr (.inl (p 400)), .inl (s 401)], n, D, s, p, c)) rfl ?_
  refine tt_len (m := (ln D (p 400))) rfl ((hW).r4.1) rfl ?_
  show tt Zi d 48 (9, [some (.inr (.inl 4)), some (.inl v)], [.inl (((ln D (p 400)) : Int)), .inl (s 401)], n, D, s, p, c) _
  refine tb_ne (x := (s 401)) (y := ((ln D (p 400)) : Int)) rfl rfl (by omega) (fun h3 => ?_) (fun h3 => ?_)
  · show tt Zi d 48 (30, [some (.inr (.inl 4)), some (.inl v)], [], n, D, s, p, c) _
    refine tt_k 6 (S' := (40, [some (.inr (.inl 4)), some (.inl v)], [.inl (mi_i2b v), .inl (s 401), .inr (.inl (p 400))], n, D, s, p, c)) rfl ?_
    have e4 := mi_i2b_bd v
    refine tt_bsb (i := (s 401)) (m := (ln D (p 400))) (lo := -128) (hi := 127) (x := (mi_i2b v)) rfl ((hW).r4.1) (by omega) hC ((hW).r4.2) ⟨rfl, rfl⟩ ?_
    intro c5 hC5 ec5
    show tt Zi d 48 (41, [some (.inr (.inl 4)), some (.inl v)], [], n, D, s, p, c5) _
    have FK6 : fk p c n p c5 [400] := fk_st (k := 400) (fk_rf hD) ec5 (by decide) rfl
    refine tt_k 6 (S' := (51, [some (.inr (.inl 4)), some (.inl v)], [], n, D, (us s 401 ((s 401) + 1)), p, c5)) rfl ?_
    exact tt_rtv rfl rfl ⟨n, D, (us s 401 ((s 401) + 1)), p, c5, rfl, rfl, (bS_us hS (show 0 ≤ ((s 401) + 1) ∧ ((s 401) + 1) ≤ 262144 by omega)), hC5, (wp_c4 hW (show ((s 401) + 1) ≤ (ln D (p 400) : Int) by omega)), (fr_us (by decide) fr_rf), frp_rf, ext_rf, FK6, rfl⟩
  · show tt Zi d 48 (12, [some (.inr (.inl 4)), some (.inl v)], [], n, D, s, p, c) _
    refine tt_k 6 (S' := (22, [some (.inr (.inl 4)), some (.inl v)], [.inr (.inl (p 400)), .inl 2, .inr (.inl (p 400)), .inr (.inl 4)], n, D, s, p, c)) rfl ?_
    refine tt_len (m := (ln D (p 400))) rfl ((hW).r4.1) rfl ?_
    show tt Zi d 48 (23, [some (.inr (.inl 4)), some (.inl v)], [.inl (((ln D (p 400)) : Int)), .inl 2, .inr (.inl (p 400)), .inr (.inl 4)], n, D, s, p, c) _
    refine tt_k 1 (S' := (24, [some (.inr (.inl 4)), some (.inl v)], [.inl ((2 * ((ln D (p 400)) : Int))), .inr (.inl (p 400)), .inr (.inl 4)], n, D, s, p, c)) rfl ?_
    have hn8 := wp_n hW (by omega)
    refine tt_cl (by omega) rfl (g_copyOf (A := (p 400)) (x := (2 * ((ln D (p 400)) : Int))) (s := s) (p := p) (hW).r4 (by omega) (by omega) (by omega) hC) ?_
    rintro _ _ ⟨c7, rfl, rfl, hC7, fc7, ec7, zc7⟩
    show tt Zi d 48 (27, [some (.inr (.inl 4)), some (.inl v)], [.inr (.inl (48 + n)), .inr (.inl 4)], (n + 1), (ud D (48 + n) (1, ((2 * ((ln D (p 400)) : Int))).toNat)), s, p, c7) _
    refine tt_k 7 (S' := (40, [some (.inr (.inl 4)), some (.inl v)], [.inl (mi_i2b v), .inl (s 401), .inr (.inl (48 + n))], (n + 1), (ud D (48 + n) (1, ((2 * ((ln D (p 400)) : Int))).toNat)), s, (up p 400 (48 + n)), c7)) rfl ?_
    have e9 := mi_i2b_bd v
    refine tt_bsb (i := (s 401)) (m := ((2 * ((ln D (p 400)) : Int))).toNat) (lo := -128) (hi := 127) (x := (mi_i2b v)) rfl (arr_nw (by omega)) (by omega) hC7 lo_nw1 ⟨rfl, rfl⟩ ?_
    intro c10 hC10 ec10
    show tt Zi d 48 (41, [some (.inr (.inl 4)), some (.inl v)], [], (n + 1), (ud D (48 + n) (1, ((2 * ((ln D (p 400)) : Int))).toNat)), s, (up p 400 (48 + n)), c10) _
    have FK11 : fk p c (n + 1) (up p 400 (48 + n)) c10 [400] := fk_st (k := 400) (fk_np (k := 400) (fk_rf hD) (by decide) ec7) ec10 (by decide) rfl
    refine tt_k 6 (S' := (51, [some (.inr (.inl 4)), some (.inl v)], [], (n + 1), (ud D (48 + n) (1, ((2 * ((ln D (p 400)) : Int))).toNat)), (us s 401 ((s 401) + 1)), (up p 400 (48 + n)), c10)) rfl ?_
    exact tt_rtv rfl rfl ⟨(n + 1), (ud D (48 + n) (1, ((2 * ((ln D (p 400)) : Int))).toNat)), (us s 401 ((s 401) + 1)), (up p 400 (48 + n)), c10, rfl, rfl, (bS_us hS (show 0 ≤ ((s 401) + 1) ∧ ((s 401) + 1) ≤ 262144 by omega)), hC10, (wp_c4 (wp_g4 hW (by omega) (by omega) (by omega)) (show ((s 401) + 1) ≤ (ln (ud D (48 + n) (1, ((2 * ((ln D (p 400)) : Int))).toNat)) (48 + n) : Int) by rw [ln_nw]; omega)), (fr_us (by decide) fr_rf), (frp_up (by decide) frp_rf), (ext_tr ext_rf ext_1), FK11, rfl⟩
set_option maxRecDepth 100000 in
set_option maxHeartbeats 4000000 in
theorem g_addTwo4 {g : Nat → Int} {Zi : Nat → Option (Nat × (Nat → Int))} {d n q : Nat} {D : Nat → Nat × Nat} {s : Nat → Int} {p : Nat → Nat} {c : Nat → Nat → Int} (hd : 2 ≤ d) (hz : zk Zi) (hq : q + 4 ≤ 400000) (hD : wd n p) (hS : bS s) (hC : bC D c) (hW : wp q g n D p s) (v : Int) (b_v : -2147483648 ≤ v ∧ v ≤ 2147483647) (hp0 : s 401 ≤ 262142) : tt Zi d 110 (0, [some (.inr (.inl 4)), some (.inl v)], [], n, D, s, p, c) (fun R H => ∃ (n' : Nat) (D' : Nat → Nat × Nat) (s' : Nat → Int) (p' : Nat → Nat) (c' : Nat → Nat → Int), R = .inl none ∧ H = (n', D', s', p', c') ∧ bS s' ∧ bC D' c' ∧ wp q g n' D' p' s' ∧ fr s s' [401] ∧ frp p p' [400] ∧ ext n D n' D' ∧ fk p c n' p' c' [400] ∧ (s' 401 = s 401 + 2)) := by
  refine tt_k 4 (S' := (5, [some (.inr (.inl 4)), some (.inl v)], [.inl (mi_shr v 8), .inr (.inl 4)], n, D, s, p, c)) rfl ?_
  have e1 := mi_shr_bd v 8
  have b2 : 0 ≤ (s 401) ∧ (s 401) ≤ 262144 := hS 401
  refine tt_cl (by omega) rfl (g_add4 (Zi := Zi) (q := q) (n := n) (D := D) (s := s) (p := p) (c := c) (by omega) hz (by omega) hD hS hC hW (mi_shr v 8) (by omega) (show (s 401) ≤ 262143 by omega)) ?_
  rintro _ _ ⟨n3, D4, s5, p6, c7, rfl, rfl, hS5, hC7, hW8, f9, g10, xe11, kf12, k13⟩
  have FK14 : fk p c n3 p6 c7 [400] := fk_tr (fk_rf hD) kf12 (by decide)
  show tt Zi d 110 (8, [some (.inr (.inl 4)), some (.inl v)], [], n3, D4, s5, p6, c7) _
  replace k13 : (s5 401) = (s 401) + 1 := k13
  have b15 : 0 ≤ (s5 401) ∧ (s5 401) ≤ 262144 := hS5 401
  refine tt_k 2 (S' := (10, [some (.inr (.inl 4)), some (.inl v)], [.inl v, .inr (.inl 4)], n3, D4, s5, p6, c7)) rfl ?_
  refine tt_cl (by omega) rfl (g_add4 (Zi := Zi) (q := q) (n := n3) (D := D4) (s := s5) (p := p6) (c := c7) (by omega) hz (by omega) FK14.1 hS5 hC7 hW8 v (by omega) (show (s5 401) ≤ 262143 by omega)) ?_
  rintro _ _ ⟨n16, D17, s18, p19, c20, rfl, rfl, hS18, hC20, hW21, f22, g23, xe24, kf25, k26⟩
  have FK27 : fk p c n16 p19 c20 [400] := fk_tr FK14 kf25 (by decide)
  show tt Zi d 110 (13, [some (.inr (.inl 4)), some (.inl v)], [], n16, D17, s18, p19, c20) _
  replace k26 : (s18 401) = (s5 401) + 1 := k26
  have b28 : 0 ≤ (s18 401) ∧ (s18 401) ≤ 262144 := hS18 401
  exact tt_rtv rfl rfl ⟨n16, D17, s18, p19, c20, rfl, rfl, hS18, hC20, hW21, (fr_tr (fr_tr fr_rf f9 (by decide)) f22 (by decide)), (frp_tr (frp_tr frp_rf g10 (by decide)) g23 (by decide)), (ext_tr (ext_tr ext_rf xe11) xe24), FK27, by show (s18 401) = s 401 + 2; omega⟩
set_option maxRecDepth 100000 in
set_option maxHeartbeats 4000000 in
theorem g_addMark4 {g : Nat → Int} {Zi : Nat → Option (Nat × (Nat → Int))} {d n q : Nat} {D : Nat → Nat × Nat} {s : Nat → Int} {p : Nat → Nat} {c : Nat → Nat → Int} (hd : 2 ≤ d) (hz : zk Zi) (hq : q + 4 ≤ 400000) (hD : wd n p) (hS : bS s) (hC : bC D c) (hW : wp q g n D p s) (v : Int) (b_v : -2147483648 ≤ v ∧ v ≤ 2147483647) (hp0 : s 401 ≤ 262142) : tt Zi d 108 (0, [some (.inr (.inl 4)), some (.inl v)], [], n, D, s, p, c) (fun R H => ∃ (n' : Nat) (D' : Nat → Nat × Nat) (s' : Nat → Int) (p' : Nat → Nat) (c' : Nat → Nat → Int), R = .inl none ∧ H = (n', D', s', p', c') ∧ bS s' ∧ bC D' c' ∧ wp q g n' D' p' s' ∧ fr s s' [401] ∧ frp p p' [400] ∧ ext n D n' D' ∧ fk p c n' p' c' [400] ∧ (s' 401 = s 401 + 2)) := by
  refine tt_k 2 (S' := (4, [some (.inr (.inl 4)), some (.inl v)], [.inl 255, .inr (.inl 4)], n, D, s, p, c)) rfl ?_
  have b1 : 0 ≤ (s 401) ∧ (s 401) ≤ 262144 := hS 401
  refine tt_cl (by omega) rfl (g_add4 (Zi := Zi) (q := q) (n := n) (D := D) (s := s) (p := p) (c := c) (by omega) hz (by omega) hD hS hC hW 255 (by omega) (show (s 401) ≤ 262143 by omega)) ?_
  rintro _ _ ⟨n2, D3, s4, p5, c6, rfl, rfl, hS4, hC6, hW7, f8, g9, xe10, kf11, k12⟩
  have FK13 : fk p c n2 p5 c6 [400] := fk_tr (fk_rf hD) kf11 (by decide)
  show tt Zi d 108 (7, [some (.inr (.inl 4)), some (.inl v)], [], n2, D3, s4, p5, c6) _
  replace k12 : (s4 401) = (s 401) + 1 := k12
  have b14 : 0 ≤ (s4 401) ∧ (s4 401) ≤ 262144 := hS4 401
  refine tt_k 2 (S' := (9, [some (.inr (.inl 4)), some (.inl v)], [.inl v, .inr (.inl 4)], n2, D3, s4, p5, c6)) rfl ?_
  refine tt_cl (by omega) rfl (g_add4 (Zi := Zi) (q := q) (n := n2) (D := D3) (s := s4) (p := p5) (c := c6) (by omega) hz (by omega) FK13.1 hS4 hC6 hW7 v (by omega) (show (s4 401) ≤ 262143 by omega)) ?_
  rintro _ _ ⟨n15, D16, s17, p18, c19, rfl, rfl, hS17, hC19, hW20, f21, g22, xe23, kf24, k25⟩
  have FK26 : fk p c n15 p18 c19 [400] := fk_tr FK13 kf24 (by decide)
  show tt Zi d 108 (12, [some (.inr (.inl 4)), some (.inl v)], [], n15, D16, s17, p18, c19) _
  replace k25 : (s17 401) = (s4 401) + 1 := k25
  have b27 : 0 ≤ (s17 401) ∧ (s17 401) ≤ 262144 := hS17 401
  exact tt_rtv rfl rfl ⟨n15, D16, s17, p18, c19, rfl, rfl, hS17, hC19, hW20, (fr_tr (fr_tr fr_rf f8 (by decide)) f21 (by decide)), (frp_tr (frp_tr frp_rf g9 (by decide)) g22 (by decide)), (ext_tr (ext_tr ext_rf xe10) xe23), FK26, by show (s17 401) = s 401 + 2; omega⟩
set_option maxRecDepth 100000 in
set_option maxHeartbeats 4000000 in
theorem g_get6 {g : Nat → Int} {Zi : Nat → Option (Nat × (Nat → Int))} {d n q : Nat} {D : Nat → Nat × Nat} {s : Nat → Int} {p : Nat → Nat} {c : Nat → Nat → Int} (hd : 0 ≤ d) (hz : zk Zi) (hq : q + 0 ≤ 400000) (hD : wd n p) (hS : bS s) (hC : bC D c) (hW : wp q g n D p s) (i : Int) (b_i : -2147483648 ≤ i ∧ i ≤ 2147483647) (hp0 : 0 ≤ i ∧ i < (ln D (p 600) : Int)) : tt Zi d 21 (0, [some (.inr (.inl 6)), some (.inl i)], [], n, D, s, p, c) (fun R H => ∃ (r : Int), R = .inl (some (.inl r)) ∧ H = (n, D, s, p, c) ∧ (0 ≤ r ∧ r ≤ 255)) := by
  have b1 := wp_l6 hW
  refine tt_k 3 (S' := (5, [some (.inr (.inl 6)), some (.inl i)], [.inl i, .inr (.inl (p 600))], n, D, s, p, c)) rfl ?_
  refine tt_blb (i := i) (m := (ln D (p 600))) (lo := -128) (hi := 127) rfl ((hW).r6.1) (by omega) hC ((hW).r6.2) ?_
  intro v2 b3 hvv2
  show tt Zi d 21 (6, [some (.inr (.inl 6)), some (.inl i)], [.inl v2], n, D, s, p, c) _
  refine tt_k 2 (S' := (10, [some (.inr (.inl 6)), some (.inl i)], [.inl (mi_and v2 255)], n, D, s, p, c)) rfl ?_
  have e4 := mi_and255 v2
  exact tt_rti rfl rfl ⟨(mi_and v2 255), rfl, rfl, by omega⟩
set_option maxRecDepth 100000 in
set_option maxHeartbeats 4000000 in
theorem g_add6 {g : Nat → Int} {Zi : Nat → Option (Nat × (Nat → Int))} {d n q : Nat} {D : Nat → Nat × Nat} {s : Nat → Int} {p : Nat → Nat} {c : Nat → Nat → Int} (hd : 1 ≤ d) (hz : zk Zi) (hq : q + 2 ≤ 400000) (hD : wd n p) (hS : bS s) (hC : bC D c) (hW : wp q g n D p s) (v : Int) (b_v : -2147483648 ≤ v ∧ v ≤ 2147483647) (hp0 : s 601 ≤ 32767) : tt Zi d 48 (0, [some (.inr (.inl 6)), some (.inl v)], [], n, D, s, p, c) (fun R H => ∃ (n' : Nat) (D' : Nat → Nat × Nat) (s' : Nat → Int) (p' : Nat → Nat) (c' : Nat → Nat → Int), R = .inl none ∧ H = (n', D', s', p', c') ∧ bS s' ∧ bC D' c' ∧ wp q g n' D' p' s' ∧ fr s s' [601] ∧ frp p p' [600] ∧ ext n D n' D' ∧ fk p c n' p' c' [600] ∧ (s' 601 = s 601 + 1)) := by
  have b1 := wp_l6 hW
  have hc4 := hW.c6
  have b2 : 0 ≤ (s 601) ∧ (s 601) ≤ 32768 := hS 601
  refine tt_k 4 (S' := (8, [some (.inr (.inl 6)), some (.inl v)], [.inr (.inl (p 600)), .inl (s 601)], n, D, s, p, c)) rfl ?_
  refine tt_len (m := (ln D (p 600))) rfl ((hW).r6.1) rfl ?_
  show tt Zi d 48 (9, [some (.inr (.inl 6)), some (.inl v)], [.inl (((ln D (p 600)) : Int)), .inl (s 601)], n, D, s, p, c) _
  refine tb_ne (x := (s 601)) (y := ((ln D (p 600)) : Int)) rfl rfl (by omega) (fun h3 => ?_) (fun h3 => ?_)
  · show tt Zi d 48 (30, [some (.inr (.inl 6)), some (.inl v)], [], n, D, s, p, c) _
    refine tt_k 6 (S' := (40, [some (.inr (.inl 6)), some (.inl v)], [.inl (mi_i2b v), .inl (s 601), .inr (.inl (p 600))], n, D, s, p, c)) rfl ?_
    have e4 := mi_i2b_bd v
    refine tt_bsb (i := (s 601)) (m := (ln D (p 600))) (lo := -128) (hi := 127) (x := (mi_i2b v)) rfl ((hW).r6.1) (by omega) hC ((hW).r6.2) ⟨rfl, rfl⟩ ?_
    intro c5 hC5 ec5
    show tt Zi d 48 (41, [some (.inr (.inl 6)), some (.inl v)], [], n, D, s, p, c5) _
    have FK6 : fk p c n p c5 [600] := fk_st (k := 600) (fk_rf hD) ec5 (by decide) rfl
    refine tt_k 6 (S' := (51, [some (.inr (.inl 6)), some (.inl v)], [], n, D, (us s 601 ((s 601) + 1)), p, c5)) rfl ?_
    exact tt_rtv rfl rfl ⟨n, D, (us s 601 ((s 601) + 1)), p, c5, rfl, rfl, (bS_us hS (show 0 ≤ ((s 601) + 1) ∧ ((s 601) + 1) ≤ 32768 by omega)), hC5, (wp_c6 hW (show ((s 601) + 1) ≤ (ln D (p 600) : Int) by omega)), (fr_us (by decide) fr_rf), frp_rf, ext_rf, FK6, rfl⟩
  · show tt Zi d 48 (12, [some (.inr (.inl 6)), some (.inl v)], [], n, D, s, p, c) _
    refine tt_k 6 (S' := (22, [some (.inr (.inl 6)), some (.inl v)], [.inr (.inl (p 600)), .inl 2, .inr (.inl (p 600)), .inr (.inl 6)], n, D, s, p, c)) rfl ?_
    refine tt_len (m := (ln D (p 600))) rfl ((hW).r6.1) rfl ?_
    show tt Zi d 48 (23, [some (.inr (.inl 6)), some (.inl v)], [.inl (((ln D (p 600)) : Int)), .inl 2, .inr (.inl (p 600)), .inr (.inl 6)], n, D, s, p, c) _
    refine tt_k 1 (S' := (24, [some (.inr (.inl 6)), some (.inl v)], [.inl ((2 * ((ln D (p 600)) : Int))), .inr (.inl (p 600)), .inr (.inl 6)], n, D, s, p, c)) rfl ?_
    have hn8 := wp_n hW (by omega)
    refine tt_cl (by omega) rfl (g_copyOf (A := (p 600)) (x := (2 * ((ln D (p 600)) : Int))) (s := s) (p := p) (hW).r6 (by omega) (by omega) (by omega) hC) ?_
    rintro _ _ ⟨c7, rfl, rfl, hC7, fc7, ec7, zc7⟩
    show tt Zi d 48 (27, [some (.inr (.inl 6)), some (.inl v)], [.inr (.inl (48 + n)), .inr (.inl 6)], (n + 1), (ud D (48 + n) (1, ((2 * ((ln D (p 600)) : Int))).toNat)), s, p, c7) _
    refine tt_k 7 (S' := (40, [some (.inr (.inl 6)), some (.inl v)], [.inl (mi_i2b v), .inl (s 601), .inr (.inl (48 + n))], (n + 1), (ud D (48 + n) (1, ((2 * ((ln D (p 600)) : Int))).toNat)), s, (up p 600 (48 + n)), c7)) rfl ?_
    have e9 := mi_i2b_bd v
    refine tt_bsb (i := (s 601)) (m := ((2 * ((ln D (p 600)) : Int))).toNat) (lo := -128) (hi := 127) (x := (mi_i2b v)) rfl (arr_nw (by omega)) (by omega) hC7 lo_nw1 ⟨rfl, rfl⟩ ?_
    intro c10 hC10 ec10
    show tt Zi d 48 (41, [some (.inr (.inl 6)), some (.inl v)], [], (n + 1), (ud D (48 + n) (1, ((2 * ((ln D (p 600)) : Int))).toNat)), s, (up p 600 (48 + n)), c10) _
    have FK11 : fk p c (n + 1) (up p 600 (48 + n)) c10 [600] := fk_st (k := 600) (fk_np (k := 600) (fk_rf hD) (by decide) ec7) ec10 (by decide) rfl
    refine tt_k 6 (S' := (51, [some (.inr (.inl 6)), some (.inl v)], [], (n + 1), (ud D (48 + n) (1, ((2 * ((ln D (p 600)) : Int))).toNat)), (us s 601 ((s 601) + 1)), (up p 600 (48 + n)), c10)) rfl ?_
    exact tt_rtv rfl rfl ⟨(n + 1), (ud D (48 + n) (1, ((2 * ((ln D (p 600)) : Int))).toNat)), (us s 601 ((s 601) + 1)), (up p 600 (48 + n)), c10, rfl, rfl, (bS_us hS (show 0 ≤ ((s 601) + 1) ∧ ((s 601) + 1) ≤ 32768 by omega)), hC10, (wp_c6 (wp_g6 hW (by omega) (by omega) (by omega)) (show ((s 601) + 1) ≤ (ln (ud D (48 + n) (1, ((2 * ((ln D (p 600)) : Int))).toNat)) (48 + n) : Int) by rw [ln_nw]; omega)), (fr_us (by decide) fr_rf), (frp_up (by decide) frp_rf), (ext_tr ext_rf ext_1), FK11, rfl⟩
set_option maxRecDepth 100000 in
set_option maxHeartbeats 4000000 in
theorem g_addTwo6 {g : Nat → Int} {Zi : Nat → Option (Nat × (Nat → Int))} {d n q : Nat} {D : Nat → Nat × Nat} {s : Nat → Int} {p : Nat → Nat} {c : Nat → Nat → Int} (hd : 2 ≤ d) (hz : zk Zi) (hq : q + 4 ≤ 400000) (hD : wd n p) (hS : bS s) (hC : bC D c) (hW : wp q g n D p s) (v : Int) (b_v : -2147483648 ≤ v ∧ v ≤ 2147483647) (hp0 : s 601 ≤ 32766) : tt Zi d 110 (0, [some (.inr (.inl 6)), some (.inl v)], [], n, D, s, p, c) (fun R H => ∃ (n' : Nat) (D' : Nat → Nat × Nat) (s' : Nat → Int) (p' : Nat → Nat) (c' : Nat → Nat → Int), R = .inl none ∧ H = (n', D', s', p', c') ∧ bS s' ∧ bC D' c' ∧ wp q g n' D' p' s' ∧ fr s s' [601] ∧ frp p p' [600] ∧ ext n D n' D' ∧ fk p c n' p' c' [600] ∧ (s' 601 = s 601 + 2)) := by
  refine tt_k 4 (S' := (5, [some (.inr (.inl 6)), some (.inl v)], [.inl (mi_shr v 8), .inr (.inl 6)], n, D, s, p, c)) rfl ?_
  have e1 := mi_shr_bd v 8
  have b2 : 0 ≤ (s 601) ∧ (s 601) ≤ 32768 := hS 601
  refine tt_cl (by omega) rfl (g_add6 (Zi := Zi) (q := q) (n := n) (D := D) (s := s) (p := p) (c := c) (by omega) hz (by omega) hD hS hC hW (mi_shr v 8) (by omega) (show (s 601) ≤ 32767 by omega)) ?_
  rintro _ _ ⟨n3, D4, s5, p6, c7, rfl, rfl, hS5, hC7, hW8, f9, g10, xe11, kf12, k13⟩
  have FK14 : fk p c n3 p6 c7 [600] := fk_tr (fk_rf hD) kf12 (by decide)
  show tt Zi d 110 (8, [some (.inr (.inl 6)), some (.inl v)], [], n3, D4, s5, p6, c7) _
  replace k13 : (s5 601) = (s 601) + 1 := k13
  have b15 : 0 ≤ (s5 601) ∧ (s5 601) ≤ 32768 := hS5 601
  refine tt_k 2 (S' := (10, [some (.inr (.inl 6)), some (.inl v)], [.inl v, .inr (.inl 6)], n3, D4, s5, p6, c7)) rfl ?_
  refine tt_cl (by omega) rfl (g_add6 (Zi := Zi) (q := q) (n := n3) (D := D4) (s := s5) (p := p6) (c := c7) (by omega) hz (by omega) FK14.1 hS5 hC7 hW8 v (by omega) (show (s5 601) ≤ 32767 by omega)) ?_
  rintro _ _ ⟨n16, D17, s18, p19, c20, rfl, rfl, hS18, hC20, hW21, f22, g23, xe24, kf25, k26⟩
  have FK27 : fk p c n16 p19 c20 [600] := fk_tr FK14 kf25 (by decide)
  show tt Zi d 110 (13, [some (.inr (.inl 6)), some (.inl v)], [], n16, D17, s18, p19, c20) _
  replace k26 : (s18 601) = (s5 601) + 1 := k26
  have b28 : 0 ≤ (s18 601) ∧ (s18 601) ≤ 32768 := hS18 601
  exact tt_rtv rfl rfl ⟨n16, D17, s18, p19, c20, rfl, rfl, hS18, hC20, hW21, (fr_tr (fr_tr fr_rf f9 (by decide)) f22 (by decide)), (frp_tr (frp_tr frp_rf g10 (by decide)) g23 (by decide)), (ext_tr (ext_tr ext_rf xe11) xe24), FK27, by show (s18 601) = s 601 + 2; omega⟩
set_option maxRecDepth 100000 in
set_option maxHeartbeats 4000000 in
theorem g_addMark6 {g : Nat → Int} {Zi : Nat → Option (Nat × (Nat → Int))} {d n q : Nat} {D : Nat → Nat × Nat} {s : Nat → Int} {p : Nat → Nat} {c : Nat → Nat → Int} (hd : 2 ≤ d) (hz : zk Zi) (hq : q + 4 ≤ 400000) (hD : wd n p) (hS : bS s) (hC : bC D c) (hW : wp q g n D p s) (v : Int) (b_v : -2147483648 ≤ v ∧ v ≤ 2147483647) (hp0 : s 601 ≤ 32766) : tt Zi d 108 (0, [some (.inr (.inl 6)), some (.inl v)], [], n, D, s, p, c) (fun R H => ∃ (n' : Nat) (D' : Nat → Nat × Nat) (s' : Nat → Int) (p' : Nat → Nat) (c' : Nat → Nat → Int), R = .inl none ∧ H = (n', D', s', p', c') ∧ bS s' ∧ bC D' c' ∧ wp q g n' D' p' s' ∧ fr s s' [601] ∧ frp p p' [600] ∧ ext n D n' D' ∧ fk p c n' p' c' [600] ∧ (s' 601 = s 601 + 2)) := by
  refine tt_k 2 (S' := (4, [some (.inr (.inl 6)), some (.inl v)], [.inl 255, .inr (.inl 6)], n, D, s, p, c)) rfl ?_
  have b1 : 0 ≤ (s 601) ∧ (s 601) ≤ 32768 := hS 601
  refine tt_cl (by omega) rfl (g_add6 (Zi := Zi) (q := q) (n := n) (D := D) (s := s) (p := p) (c := c) (by omega) hz (by omega) hD hS hC hW 255 (by omega) (show (s 601) ≤ 32767 by omega)) ?_
  rintro _ _ ⟨n2, D3, s4, p5, c6, rfl, rfl, hS4, hC6, hW7, f8, g9, xe10, kf11, k12⟩
  have FK13 : fk p c n2 p5 c6 [600] := fk_tr (fk_rf hD) kf11 (by decide)
  show tt Zi d 108 (7, [some (.inr (.inl 6)), some (.inl v)], [], n2, D3, s4, p5, c6) _
  replace k12 : (s4 601) = (s 601) + 1 := k12
  have b14 : 0 ≤ (s4 601) ∧ (s4 601) ≤ 32768 := hS4 601
  refine tt_k 2 (S' := (9, [some (.inr (.inl 6)), some (.inl v)], [.inl v, .inr (.inl 6)], n2, D3, s4, p5, c6)) rfl ?_
  refine tt_cl (by omega) rfl (g_add6 (Zi := Zi) (q := q) (n := n2) (D := D3) (s := s4) (p := p5) (c := c6) (by omega) hz (by omega) FK13.1 hS4 hC6 hW7 v (by omega) (show (s4 601) ≤ 32767 by omega)) ?_
  rintro _ _ ⟨n15, D16, s17, p18, c19, rfl, rfl, hS17, hC19, hW20, f21, g22, xe23, kf24, k25⟩
  have FK26 : fk p c n15 p18 c19 [600] := fk_tr FK13 kf24 (by decide)
  show tt Zi d 108 (12, [some (.inr (.inl 6)), some (.inl v)], [], n15, D16, s17, p18, c19) _
  replace k25 : (s17 601) = (s4 601) + 1 := k25
  have b27 : 0 ≤ (s17 601) ∧ (s17 601) ≤ 32768 := hS17 601
  exact tt_rtv rfl rfl ⟨n15, D16, s17, p18, c19, rfl, rfl, hS17, hC19, hW20, (fr_tr (fr_tr fr_rf f8 (by decide)) f21 (by decide)), (frp_tr (frp_tr frp_rf g9 (by decide)) g22 (by decide)), (ext_tr (ext_tr ext_rf xe10) xe23), FK26, by show (s17 601) = s 601 + 2; omega⟩
set_option maxRecDepth 100000 in
set_option maxHeartbeats 4000000 in
theorem g_addFour6 {g : Nat → Int} {Zi : Nat → Option (Nat × (Nat → Int))} {d n q : Nat} {D : Nat → Nat × Nat} {s : Nat → Int} {p : Nat → Nat} {c : Nat → Nat → Int} (hd : 3 ≤ d) (hz : zk Zi) (hq : q + 6 ≤ 400000) (hD : wd n p) (hS : bS s) (hC : bC D c) (hW : wp q g n D p s) (v : Int) (b_v : -2147483648 ≤ v ∧ v ≤ 2147483647) (hp0 : s 601 ≤ 32764) : tt Zi d 119 (0, [some (.inr (.inl 6)), some (.inl v)], [], n, D, s, p, c) (fun R H => ∃ (n' : Nat) (D' : Nat → Nat × Nat) (s' : Nat → Int) (p' : Nat → Nat) (c' : Nat → Nat → Int), R = .inl none ∧ H = (n', D', s', p', c') ∧ bS s' ∧ bC D' c' ∧ wp q g n' D' p' s' ∧ fr s s' [601] ∧ frp p p' [600] ∧ ext n D n' D' ∧ fk p c n' p' c' [600] ∧ (s' 601 = s 601 + 4)) := by
  refine tt_k 4 (S' := (5, [some (.inr (.inl 6)), some (.inl v)], [.inl (mi_shr v 16), .inr (.inl 6)], n, D, s, p, c)) rfl ?_
  have e1 := mi_shr_bd v 16
  have b2 : 0 ≤ (s 601) ∧ (s 601) ≤ 32768 := hS 601
  refine tt_cl (by omega) rfl (g_addTwo6 (Zi := Zi) (q := q) (n := n) (D := D) (s := s) (p := p) (c := c) (by omega) hz (by omega) hD hS hC hW (mi_shr v 16) (by omega) (show (s 601) ≤ 32766 by omega)) ?_
  rintro _ _ ⟨n3, D4, s5, p6, c7, rfl, rfl, hS5, hC7, hW8, f9, g10, xe11, kf12, k13⟩
  have FK14 : fk p c n3 p6 c7 [600] := fk_tr (fk_rf hD) kf12 (by decide)
  show tt Zi d 119 (8, [some (.inr (.inl 6)), some (.inl v)], [], n3, D4, s5, p6, c7) _
  replace k13 : (s5 601) = (s 601) + 2 := k13
  have b15 : 0 ≤ (s5 601) ∧ (s5 601) ≤ 32768 := hS5 601
  refine tt_k 2 (S' := (10, [some (.inr (.inl 6)), some (.inl v)], [.inl v, .inr (.inl 6)], n3, D4, s5, p6, c7)) rfl ?_
  refine tt_cl (by omega) rfl (g_addTwo6 (Zi := Zi) (q := q) (n := n3) (D := D4) (s := s5) (p := p6) (c := c7) (by omega) hz (by omega) FK14.1 hS5 hC7 hW8 v (by omega) (show (s5 601) ≤ 32766 by omega)) ?_
  rintro _ _ ⟨n16, D17, s18, p19, c20, rfl, rfl, hS18, hC20, hW21, f22, g23, xe24, kf25, k26⟩
  have FK27 : fk p c n16 p19 c20 [600] := fk_tr FK14 kf25 (by decide)
  show tt Zi d 119 (13, [some (.inr (.inl 6)), some (.inl v)], [], n16, D17, s18, p19, c20) _
  replace k26 : (s18 601) = (s5 601) + 2 := k26
  have b28 : 0 ≤ (s18 601) ∧ (s18 601) ≤ 32768 := hS18 601
  exact tt_rtv rfl rfl ⟨n16, D17, s18, p19, c20, rfl, rfl, hS18, hC20, hW21, (fr_tr (fr_tr fr_rf f9 (by decide)) f22 (by decide)), (frp_tr (frp_tr frp_rf g10 (by decide)) g23 (by decide)), (ext_tr (ext_tr ext_rf xe11) xe24), FK27, by show (s18 601) = s 601 + 4; omega⟩
set_option maxRecDepth 100000 in
set_option maxHeartbeats 4000000 in
theorem g_copy {g : Nat → Int} {Zi : Nat → Option (Nat × (Nat → Int))} {d n q : Nat} {D : Nat → Nat × Nat} {s : Nat → Int} {p : Nat → Nat} {c : Nat → Nat → Int} (hd : 1 ≤ d) (hz : zk Zi) (hq : q + 2 ≤ 400000) (hD : wd n p) (hS : bS s) (hC : bC D c) (hW : wp q g n D p s) (hp0 : s 401 ≤ 32768) : tt Zi d 126 (0, [some (.inr (.inl 6)), some (.inr (.inl 4))], [], n, D, s, p, c) (fun R H => ∃ (n' : Nat) (D' : Nat → Nat × Nat) (s' : Nat → Int) (p' : Nat → Nat) (c' : Nat → Nat → Int), R = .inl none ∧ H = (n', D', s', p', c') ∧ bS s' ∧ bC D' c' ∧ wp q g n' D' p' s' ∧ fr s s' [601] ∧ frp p p' [600] ∧ ext n D n' D' ∧ fk p c n' p' c' [600] ∧ (s' 601 = s 401)) := by
  have b1 := wp_l4 hW
  have b2 := wp_l6 hW
  have hc4 := hW.c4
  have hc6 := hW.c6
  have b3 : 0 ≤ (s 401) ∧ (s 401) ≤ 262144 := hS 401
  refine tt_k 2 (S' := (4, [some (.inr (.inl 6)), some (.inr (.inl 4))], [.inr (.inl (p 600))], n, D, s, p, c)) rfl ?_
  refine tt_len (m := (ln D (p 600))) rfl ((hW).r6.1) rfl ?_
  show tt Zi d 126 (5, [some (.inr (.inl 6)), some (.inr (.inl 4))], [.inl (((ln D (p 600)) : Int))], n, D, s, p, c) _
  refine tt_k 2 (S' := (9, [some (.inr (.inl 6)), some (.inr (.inl 4))], [.inl (s 401), .inl (((ln D (p 600)) : Int))], n, D, s, p, c)) rfl ?_
  refine tb_ge (x := ((ln D (p 600)) : Int)) (y := (s 401)) rfl rfl (by omega) (fun h4 => ?_) (fun h4 => ?_)
  · show tt Zi d 126 (23, [some (.inr (.inl 6)), some (.inr (.inl 4))], [], n, D, s, p, c) _
    refine tt_k 8 (S' := (37, [some (.inr (.inl 6)), some (.inr (.inl 4))], [.inl (s 401), .inl 0, .inr (.inl (p 600)), .inl 0, .inr (.inl (p 400))], n, D, s, p, c)) rfl ?_
    refine tt_cpb (a := (p 400)) (b := (p 600)) (t := 1) (n0 := (ln D (p 400))) (n1 := (ln D (p 600))) (lo := -128) (hi := 127) (k := (s 401)) (dp := 0) (sp := 0) rfl rfl ((hW).r4.1) ((hW).r6.1) (by decide) (Nat.le_of_ble_eq_true rfl) (by omega) hC ((hW).r4.2) ((hW).r6.2) (Or.inr ⟨rfl, rfl⟩) ?_
    intro c5 hC5 ec5
    show tt Zi d 126 (40, [some (.inr (.inl 6)), some (.inr (.inl 4))], [], n, D, s, p, c5) _
    have FK6 : fk p c n p c5 [600] := fk_st (k := 600) (fk_rf hD) ec5 (by decide) rfl
    refine tt_k 4 (S' := (48, [some (.inr (.inl 6)), some (.inr (.inl 4))], [], n, D, (us s 601 (s 401)), p, c5)) rfl ?_
    exact tt_rtv rfl rfl ⟨n, D, (us s 601 (s 401)), p, c5, rfl, rfl, (bS_us hS (show 0 ≤ (s 401) ∧ (s 401) ≤ 32768 by omega)), hC5, (wp_c6 hW (show (s 401) ≤ (ln D (p 600) : Int) by omega)), (fr_us (by decide) fr_rf), frp_rf, ext_rf, FK6, by show (s 401) = s 401; omega⟩
  · show tt Zi d 126 (12, [some (.inr (.inl 6)), some (.inr (.inl 4))], [], n, D, s, p, c) _
    refine tt_k 3 (S' := (17, [some (.inr (.inl 6)), some (.inr (.inl 4))], [.inr (.inl (p 400)), .inr (.inl 6)], n, D, s, p, c)) rfl ?_
    refine tt_len (m := (ln D (p 400))) rfl ((hW).r4.1) rfl ?_
    show tt Zi d 126 (18, [some (.inr (.inl 6)), some (.inr (.inl 4))], [.inl (((ln D (p 400)) : Int)), .inr (.inl 6)], n, D, s, p, c) _
    have hn7 := wp_n hW (by omega)
    refine tt_nwb (x := ((ln D (p 400)) : Int)) (k := 1) rfl rfl (by omega) hC ?_
    intro c8 hC8 ec8
    show tt Zi d 126 (20, [some (.inr (.inl 6)), some (.inr (.inl 4))], [.inr (.inl (48 + n)), .inr (.inl 6)], (n + 1), (ud D (48 + n) (1, (((ln D (p 400)) : Int)).toNat)), s, p, c8) _
    refine tt_k 9 (S' := (37, [some (.inr (.inl 6)), some (.inr (.inl 4))], [.inl (s 401), .inl 0, .inr (.inl (48 + n)), .inl 0, .inr (.inl (p 400))], (n + 1), (ud D (48 + n) (1, (((ln D (p 400)) : Int)).toNat)), s, (up p 600 (48 + n)), c8)) rfl ?_
    refine tt_cpb (a := (p 400)) (b := (48 + n)) (t := 1) (n0 := (ln D (p 400))) (n1 := (((ln D (p 400)) : Int)).toNat) (lo := -128) (hi := 127) (k := (s 401)) (dp := 0) (sp := 0) rfl rfl (ext_arr ext_1 (hW).r4.1) (arr_nw (by omega)) (by decide) (Nat.le_of_ble_eq_true rfl) (by omega) hC8 (ext_byt ext_1 (hW).r4).2 lo_nw1 (Or.inr ⟨rfl, rfl⟩) ?_
    intro c9 hC9 ec9
    show tt Zi d 126 (40, [some (.inr (.inl 6)), some (.inr (.inl 4))], [], (n + 1), (ud D (48 + n) (1, (((ln D (p 400)) : Int)).toNat)), s, (up p 600 (48 + n)), c9) _
    have FK10 : fk p c (n + 1) (up p 600 (48 + n)) c9 [600] := fk_st (k := 600) (fk_np (k := 600) (fk_rf hD) (by decide) ec8) ec9 (by decide) rfl
    refine tt_k 4 (S' := (48, [some (.inr (.inl 6)), some (.inr (.inl 4))], [], (n + 1), (ud D (48 + n) (1, (((ln D (p 400)) : Int)).toNat)), (us s 601 (s 401)), (up p 600 (48 + n)), c9)) rfl ?_
    exact tt_rtv rfl rfl ⟨(n + 1), (ud D (48 + n) (1, (((ln D (p 400)) : Int)).toNat)), (us s 601 (s 401)), (up p 600 (48 + n)), c9, rfl, rfl, (bS_us hS (show 0 ≤ (s 401) ∧ (s 401) ≤ 32768 by omega)), hC9, (wp_c6 (wp_cp6 hW (by omega) (by omega) (by omega)) (show (s 401) ≤ (ln (ud D (48 + n) (1, (((ln D (p 400)) : Int)).toNat)) (48 + n) : Int) by rw [ln_nw]; omega)), (fr_us (by decide) fr_rf), (frp_up (by decide) frp_rf), (ext_tr ext_rf ext_1), FK10, by show (s 401) = s 401; omega⟩
set_option maxRecDepth 100000 in
set_option maxHeartbeats 4000000 in
theorem g_reshape1 {g : Nat → Int} {Zi : Nat → Option (Nat × (Nat → Int))} {d n q : Nat} {D : Nat → Nat × Nat} {s : Nat → Int} {p : Nat → Nat} {c : Nat → Nat → Int} (hd : 1 ≤ d) (hz : zk Zi) (hq : q + 2 ≤ 400000) (hD : wd n p) (hS : bS s) (hC : bC D c) (hW : wp q g n D p s) (wi : Int) (hi_ : Int) (pl_ : Int) (dp_ : Int) (b_wi : 1 ≤ wi ∧ wi ≤ 64) (b_hi_ : 1 ≤ hi_ ∧ hi_ ≤ 64) (b_pl_ : 1 ≤ pl_ ∧ pl_ ≤ 3) (b_dp_ : 2 ≤ dp_ ∧ dp_ ≤ 16) : tt Zi d 12 (0, [some (.inr (.inl 1)), some (.inl wi), some (.inl hi_), some (.inl pl_), some (.inl dp_), none], [], n, D, s, p, c) (fun R H => ∃ (n' : Nat) (D' : Nat → Nat × Nat) (s' : Nat → Int) (p' : Nat → Nat) (c' : Nat → Nat → Int), R = .inl none ∧ H = (n', D', s', p', c') ∧ bS s' ∧ bC D' c' ∧ wp q (us (us (us (us g 100 wi) 101 hi_) 102 pl_) 103 dp_) n' D' p' s' ∧ fr s s' [100, 101, 102, 103] ∧ frp p p' [104] ∧ ext n D n' D' ∧ fk p c n' p' c' [104] ∧ (s' 100 = wi) ∧ (s' 101 = hi_) ∧ (s' 102 = pl_) ∧ (s' 103 = dp_) ∧ (∀ i : Nat, (i : Int) < wi * hi_ * pl_ → c' (p' 104) i = 0)) := by
  have b1 : ln D (p 104) ≤ 12288 := (hW).p1.2.2
  have hm1 := mul_bd (e := wi) (st := hi_) (a := 64) (b := 64) (by omega) (by omega) (by omega) (by omega) (by omega)
  have hm2 := mul_bd (e := wi * hi_) (st := pl_) (a := 4096) (b := 3) (by omega) (by omega) (by omega) (by omega) (by omega)
  have hm3 : 0 ≤ wi * hi_ * pl_ := Int.mul_nonneg (Int.mul_nonneg (by omega) (by omega)) (by omega)
  refine tt_k 14 (S' := (23, [some (.inr (.inl 1)), some (.inl wi), some (.inl hi_), some (.inl pl_), some (.inl dp_), none], [.inl hi_, .inl wi], n, D, (us (us (us (us s 100 wi) 101 hi_) 102 pl_) 103 dp_), p, c)) rfl ?_
  refine tt_k 6 (S' := (32, [some (.inr (.inl 1)), some (.inl wi), some (.inl hi_), some (.inl pl_), some (.inl dp_), some (.inl ((wi * hi_) * pl_))], [.inr (.inl (p 104))], n, D, (us (us (us (us s 100 wi) 101 hi_) 102 pl_) 103 dp_), p, c)) rfl ?_
  refine tt_len (m := (ln D (p 104))) rfl ((hW).p1.1) rfl ?_
  show tt Zi d 12 (33, [some (.inr (.inl 1)), some (.inl wi), some (.inl hi_), some (.inl pl_), some (.inl dp_), some (.inl ((wi * hi_) * pl_))], [.inl (((ln D (p 104)) : Int))], n, D, (us (us (us (us s 100 wi) 101 hi_) 102 pl_) 103 dp_), p, c) _
  refine tt_k 1 (S' := (35, [some (.inr (.inl 1)), some (.inl wi), some (.inl hi_), some (.inl pl_), some (.inl dp_), some (.inl ((wi * hi_) * pl_))], [.inl ((wi * hi_) * pl_), .inl (((ln D (p 104)) : Int))], n, D, (us (us (us (us s 100 wi) 101 hi_) 102 pl_) 103 dp_), p, c)) rfl ?_
  refine tb_ge (x := ((ln D (p 104)) : Int)) (y := ((wi * hi_) * pl_)) rfl rfl (by omega) (fun h2 => ?_) (fun h2 => ?_)
  · show tt Zi d 12 (65, [some (.inr (.inl 1)), some (.inl wi), some (.inl hi_), some (.inl pl_), some (.inl dp_), some (.inl ((wi * hi_) * pl_))], [], n, D, (us (us (us (us s 100 wi) 101 hi_) 102 pl_) 103 dp_), p, c) _
    refine tt_k 3 (S' := (70, [some (.inr (.inl 1)), some (.inl wi), some (.inl hi_), some (.inl pl_), some (.inl dp_), some (.inl ((wi * hi_) * pl_))], [.inl 0, .inr (.inl (p 104))], n, D, (us (us (us (us s 100 wi) 101 hi_) 102 pl_) 103 dp_), p, c)) rfl ?_
    refine tt_cl (by omega) rfl (g_fill (A := (p 104)) (m := (ln D (p 104))) (s := (us (us (us (us s 100 wi) 101 hi_) 102 pl_) 103 dp_)) (p := p) ((hW).p1.1) (by omega) (by rw [(show bC_lo D (p 104) = 0 ∧ bC_hi D (p 104) = 65535 from ((hW).p1.2.1)).1, (show bC_lo D (p 104) = 0 ∧ bC_hi D (p 104) = 65535 from ((hW).p1.2.1)).2]; decide) hC) ?_
    rintro _ _ ⟨c3, rfl, rfl, hC3, fc3, ec3, zc3⟩
    show tt Zi d 12 (73, [some (.inr (.inl 1)), some (.inl wi), some (.inl hi_), some (.inl pl_), some (.inl dp_), some (.inl ((wi * hi_) * pl_))], [], n, D, (us (us (us (us s 100 wi) 101 hi_) 102 pl_) 103 dp_), p, c3) _
    have FK4 : fk p c n p c3 [104] := fk_st (k := 104) (fk_rf hD) ec3 (by decide) rfl
    exact tt_rtv rfl rfl ⟨n, D, (us (us (us (us s 100 wi) 101 hi_) 102 pl_) 103 dp_), p, c3, rfl, rfl, (bS_us (bS_us (bS_us (bS_us hS (show 1 ≤ wi ∧ wi ≤ 64 by omega)) (show 1 ≤ hi_ ∧ hi_ ≤ 64 by omega)) (show 1 ≤ pl_ ∧ pl_ ≤ 3 by omega)) (show 2 ≤ dp_ ∧ dp_ ≤ 16 by omega)), hC3, (wp_rz1 hW (by omega)), (fr_us (by decide) (fr_us (by decide) (fr_us (by decide) (fr_us (by decide) fr_rf)))), frp_rf, ext_rf, FK4, rfl, rfl, rfl, rfl, by show ∀ i : Nat, (i : Int) < wi * hi_ * pl_ → c3 (p 104) i = 0; intro i hi; rw [ec3, uc_eq]; exact zc3 i (by omega)⟩
  · show tt Zi d 12 (38, [some (.inr (.inl 1)), some (.inl wi), some (.inl hi_), some (.inl pl_), some (.inl dp_), some (.inl ((wi * hi_) * pl_))], [], n, D, (us (us (us (us s 100 wi) 101 hi_) 102 pl_) 103 dp_), p, c) _
    refine tt_k 6 (S' := (49, [some (.inr (.inl 1)), some (.inl wi), some (.inl hi_), some (.inl pl_), some (.inl dp_), some (.inl ((wi * hi_) * pl_))], [.inr (.inl (p 104)), .inl 2, .inl ((wi * hi_) * pl_), .inl 12288, .inr (.inl 1)], n, D, (us (us (us (us s 100 wi) 101 hi_) 102 pl_) 103 dp_), p, c)) rfl ?_
    refine tt_len (m := (ln D (p 104))) rfl ((hW).p1.1) rfl ?_
    show tt Zi d 12 (50, [some (.inr (.inl 1)), some (.inl wi), some (.inl hi_), some (.inl pl_), some (.inl dp_), some (.inl ((wi * hi_) * pl_))], [.inl (((ln D (p 104)) : Int)), .inl 2, .inl ((wi * hi_) * pl_), .inl 12288, .inr (.inl 1)], n, D, (us (us (us (us s 100 wi) 101 hi_) 102 pl_) 103 dp_), p, c) _
    refine tt_k 1 (S' := (51, [some (.inr (.inl 1)), some (.inl wi), some (.inl hi_), some (.inl pl_), some (.inl dp_), some (.inl ((wi * hi_) * pl_))], [.inl ((2 * ((ln D (p 104)) : Int))), .inl ((wi * hi_) * pl_), .inl 12288, .inr (.inl 1)], n, D, (us (us (us (us s 100 wi) 101 hi_) 102 pl_) 103 dp_), p, c)) rfl ?_
    refine tt_max (k := 0) (x := ((wi * hi_) * pl_)) (y := (2 * ((ln D (p 104)) : Int))) rfl rfl (Nat.le_of_ble_eq_true rfl) (by omega) ?_
    refine tt_min (k := 0) (x := 12288) (y := (max ((wi * hi_) * pl_) (2 * ((ln D (p 104)) : Int)))) rfl rfl (Nat.le_of_ble_eq_true rfl) (by omega) ?_
    have hn5 := wp_n hW (by omega)
    refine tt_nwb (x := (min 12288 (max ((wi * hi_) * pl_) (2 * ((ln D (p 104)) : Int))))) (k := 0) rfl rfl (by omega) hC ?_
    intro c6 hC6 ec6
    show tt Zi d 12 (59, [some (.inr (.inl 1)), some (.inl wi), some (.inl hi_), some (.inl pl_), some (.inl dp_), some (.inl ((wi * hi_) * pl_))], [.inr (.inl (48 + n)), .inr (.inl 1)], (n + 1), (ud D (48 + n) (0, ((min 12288 (max ((wi * hi_) * pl_) (2 * ((ln D (p 104)) : Int))))).toNat)), (us (us (us (us s 100 wi) 101 hi_) 102 pl_) 103 dp_), p, c6) _
    refine tt_k 2 (S' := (73, [some (.inr (.inl 1)), some (.inl wi), some (.inl hi_), some (.inl pl_), some (.inl dp_), some (.inl ((wi * hi_) * pl_))], [], (n + 1), (ud D (48 + n) (0, ((min 12288 (max ((wi * hi_) * pl_) (2 * ((ln D (p 104)) : Int))))).toNat)), (us (us (us (us s 100 wi) 101 hi_) 102 pl_) 103 dp_), (up p 104 (48 + n)), c6)) rfl ?_
    exact tt_rtv rfl rfl ⟨(n + 1), (ud D (48 + n) (0, ((min 12288 (max ((wi * hi_) * pl_) (2 * ((ln D (p 104)) : Int))))).toNat)), (us (us (us (us s 100 wi) 101 hi_) 102 pl_) 103 dp_), (up p 104 (48 + n)), c6, rfl, rfl, (bS_us (bS_us (bS_us (bS_us hS (show 1 ≤ wi ∧ wi ≤ 64 by omega)) (show 1 ≤ hi_ ∧ hi_ ≤ 64 by omega)) (show 1 ≤ pl_ ∧ pl_ ≤ 3 by omega)) (show 2 ≤ dp_ ∧ dp_ ≤ 16 by omega)), hC6, (wp_rs1 hW (by omega) (by omega) (by omega) (by omega) (by omega) (by omega)), (fr_us (by decide) (fr_us (by decide) (fr_us (by decide) (fr_us (by decide) fr_rf)))), (frp_up (by decide) frp_rf), (ext_tr ext_rf ext_1), (fk_np (k := 104) (fk_rf hD) (by decide) ec6), rfl, rfl, rfl, rfl, by show ∀ i : Nat, (i : Int) < wi * hi_ * pl_ → c6 (48 + n) i = 0; intro i hi; rw [ec6, uc_eq]⟩
set_option maxRecDepth 100000 in
set_option maxHeartbeats 4000000 in
theorem g_reshape25 {g : Nat → Int} {Zi : Nat → Option (Nat × (Nat → Int))} {d n q : Nat} {D : Nat → Nat × Nat} {s : Nat → Int} {p : Nat → Nat} {c : Nat → Nat → Int} (hd : 1 ≤ d) (hz : zk Zi) (hq : q + 2 ≤ 400000) (hD : wd n p) (hS : bS s) (hC : bC D c) (hW : wp q g n D p s) (wi : Int) (hi_ : Int) (pl_ : Int) (dp_ : Int) (b_wi : 1 ≤ wi ∧ wi ≤ 64) (b_hi_ : 1 ≤ hi_ ∧ hi_ ≤ 64) (b_pl_ : 1 ≤ pl_ ∧ pl_ ≤ 3) (b_dp_ : 2 ≤ dp_ ∧ dp_ ≤ 16) : tt Zi d 12 (0, [some (.inr (.inl 25)), some (.inl wi), some (.inl hi_), some (.inl pl_), some (.inl dp_), none], [], n, D, s, p, c) (fun R H => ∃ (n' : Nat) (D' : Nat → Nat × Nat) (s' : Nat → Int) (p' : Nat → Nat) (c' : Nat → Nat → Int), R = .inl none ∧ H = (n', D', s', p', c') ∧ bS s' ∧ bC D' c' ∧ wp q g n' D' p' s' ∧ fr s s' [2500, 2501, 2502, 2503] ∧ frp p p' [2504] ∧ ext n D n' D' ∧ fk p c n' p' c' [2504] ∧ (s' 2500 = wi) ∧ (s' 2501 = hi_) ∧ (s' 2502 = pl_) ∧ (s' 2503 = dp_) ∧ (∀ i : Nat, (i : Int) < wi * hi_ * pl_ → c' (p' 2504) i = 0)) := by
  have b1 : ln D (p 2504) ≤ 12288 := (hW).p25.2.2
  have hm1 := mul_bd (e := wi) (st := hi_) (a := 64) (b := 64) (by omega) (by omega) (by omega) (by omega) (by omega)
  have hm2 := mul_bd (e := wi * hi_) (st := pl_) (a := 4096) (b := 3) (by omega) (by omega) (by omega) (by omega) (by omega)
  have hm3 : 0 ≤ wi * hi_ * pl_ := Int.mul_nonneg (Int.mul_nonneg (by omega) (by omega)) (by omega)
  refine tt_k 14 (S' := (23, [some (.inr (.inl 25)), some (.inl wi), some (.inl hi_), some (.inl pl_), some (.inl dp_), none], [.inl hi_, .inl wi], n, D, (us (us (us (us s 2500 wi) 2501 hi_) 2502 pl_) 2503 dp_), p, c)) rfl ?_
  refine tt_k 6 (S' := (32, [some (.inr (.inl 25)), some (.inl wi), some (.inl hi_), some (.inl pl_), some (.inl dp_), some (.inl ((wi * hi_) * pl_))], [.inr (.inl (p 2504))], n, D, (us (us (us (us s 2500 wi) 2501 hi_) 2502 pl_) 2503 dp_), p, c)) rfl ?_
  refine tt_len (m := (ln D (p 2504))) rfl ((hW).p25.1) rfl ?_
  show tt Zi d 12 (33, [some (.inr (.inl 25)), some (.inl wi), some (.inl hi_), some (.inl pl_), some (.inl dp_), some (.inl ((wi * hi_) * pl_))], [.inl (((ln D (p 2504)) : Int))], n, D, (us (us (us (us s 2500 wi) 2501 hi_) 2502 pl_) 2503 dp_), p, c) _
  refine tt_k 1 (S' := (35, [some (.inr (.inl 25)), some (.inl wi), some (.inl hi_), some (.inl pl_), some (.inl dp_), some (.inl ((wi * hi_) * pl_))], [.inl ((wi * hi_) * pl_), .inl (((ln D (p 2504)) : Int))], n, D, (us (us (us (us s 2500 wi) 2501 hi_) 2502 pl_) 2503 dp_), p, c)) rfl ?_
  refine tb_ge (x := ((ln D (p 2504)) : Int)) (y := ((wi * hi_) * pl_)) rfl rfl (by omega) (fun h2 => ?_) (fun h2 => ?_)
  · show tt Zi d 12 (65, [some (.inr (.inl 25)), some (.inl wi), some (.inl hi_), some (.inl pl_), some (.inl dp_), some (.inl ((wi * hi_) * pl_))], [], n, D, (us (us (us (us s 2500 wi) 2501 hi_) 2502 pl_) 2503 dp_), p, c) _
    refine tt_k 3 (S' := (70, [some (.inr (.inl 25)), some (.inl wi), some (.inl hi_), some (.inl pl_), some (.inl dp_), some (.inl ((wi * hi_) * pl_))], [.inl 0, .inr (.inl (p 2504))], n, D, (us (us (us (us s 2500 wi) 2501 hi_) 2502 pl_) 2503 dp_), p, c)) rfl ?_
    refine tt_cl (by omega) rfl (g_fill (A := (p 2504)) (m := (ln D (p 2504))) (s := (us (us (us (us s 2500 wi) 2501 hi_) 2502 pl_) 2503 dp_)) (p := p) ((hW).p25.1) (by omega) (by rw [(show bC_lo D (p 2504) = 0 ∧ bC_hi D (p 2504) = 65535 from ((hW).p25.2.1)).1, (show bC_lo D (p 2504) = 0 ∧ bC_hi D (p 2504) = 65535 from ((hW).p25.2.1)).2]; decide) hC) ?_
    rintro _ _ ⟨c3, rfl, rfl, hC3, fc3, ec3, zc3⟩
    show tt Zi d 12 (73, [some (.inr (.inl 25)), some (.inl wi), some (.inl hi_), some (.inl pl_), some (.inl dp_), some (.inl ((wi * hi_) * pl_))], [], n, D, (us (us (us (us s 2500 wi) 2501 hi_) 2502 pl_) 2503 dp_), p, c3) _
    have FK4 : fk p c n p c3 [2504] := fk_st (k := 2504) (fk_rf hD) ec3 (by decide) rfl
    exact tt_rtv rfl rfl ⟨n, D, (us (us (us (us s 2500 wi) 2501 hi_) 2502 pl_) 2503 dp_), p, c3, rfl, rfl, (bS_us (bS_us (bS_us (bS_us hS (show 0 ≤ wi ∧ wi ≤ 64 by omega)) (show 0 ≤ hi_ ∧ hi_ ≤ 64 by omega)) (show 0 ≤ pl_ ∧ pl_ ≤ 3 by omega)) (show 0 ≤ dp_ ∧ dp_ ≤ 16 by omega)), hC3, (wp_rz25 hW (by omega)), (fr_us (by decide) (fr_us (by decide) (fr_us (by decide) (fr_us (by decide) fr_rf)))), frp_rf, ext_rf, FK4, rfl, rfl, rfl, rfl, by show ∀ i : Nat, (i : Int) < wi * hi_ * pl_ → c3 (p 2504) i = 0; intro i hi; rw [ec3, uc_eq]; exact zc3 i (by omega)⟩
  · show tt Zi d 12 (38, [some (.inr (.inl 25)), some (.inl wi), some (.inl hi_), some (.inl pl_), some (.inl dp_), some (.inl ((wi * hi_) * pl_))], [], n, D, (us (us (us (us s 2500 wi) 2501 hi_) 2502 pl_) 2503 dp_), p, c) _
    refine tt_k 6 (S' := (49, [some (.inr (.inl 25)), some (.inl wi), some (.inl hi_), some (.inl pl_), some (.inl dp_), some (.inl ((wi * hi_) * pl_))], [.inr (.inl (p 2504)), .inl 2, .inl ((wi * hi_) * pl_), .inl 12288, .inr (.inl 25)], n, D, (us (us (us (us s 2500 wi) 2501 hi_) 2502 pl_) 2503 dp_), p, c)) rfl ?_
    refine tt_len (m := (ln D (p 2504))) rfl ((hW).p25.1) rfl ?_
    show tt Zi d 12 (50, [some (.inr (.inl 25)), some (.inl wi), some (.inl hi_), some (.inl pl_), some (.inl dp_), some (.inl ((wi * hi_) * pl_))], [.inl (((ln D (p 2504)) : Int)), .inl 2, .inl ((wi * hi_) * pl_), .inl 12288, .inr (.inl 25)], n, D, (us (us (us (us s 2500 wi) 2501 hi_) 2502 pl_) 2503 dp_), p, c) _
    refine tt_k 1 (S' := (51, [some (.inr (.inl 25)), some (.inl wi), some (.inl hi_), some (.inl pl_), some (.inl dp_), some (.inl ((wi * hi_) * pl_))], [.inl ((2 * ((ln D (p 2504)) : Int))), .inl ((wi * hi_) * pl_), .inl 12288, .inr (.inl 25)], n, D, (us (us (us (us s 2500 wi) 2501 hi_) 2502 pl_) 2503 dp_), p, c)) rfl ?_
    refine tt_max (k := 0) (x := ((wi * hi_) * pl_)) (y := (2 * ((ln D (p 2504)) : Int))) rfl rfl (Nat.le_of_ble_eq_true rfl) (by omega) ?_
    refine tt_min (k := 0) (x := 12288) (y := (max ((wi * hi_) * pl_) (2 * ((ln D (p 2504)) : Int)))) rfl rfl (Nat.le_of_ble_eq_true rfl) (by omega) ?_
    have hn5 := wp_n hW (by omega)
    refine tt_nwb (x := (min 12288 (max ((wi * hi_) * pl_) (2 * ((ln D (p 2504)) : Int))))) (k := 0) rfl rfl (by omega) hC ?_
    intro c6 hC6 ec6
    show tt Zi d 12 (59, [some (.inr (.inl 25)), some (.inl wi), some (.inl hi_), some (.inl pl_), some (.inl dp_), some (.inl ((wi * hi_) * pl_))], [.inr (.inl (48 + n)), .inr (.inl 25)], (n + 1), (ud D (48 + n) (0, ((min 12288 (max ((wi * hi_) * pl_) (2 * ((ln D (p 2504)) : Int))))).toNat)), (us (us (us (us s 2500 wi) 2501 hi_) 2502 pl_) 2503 dp_), p, c6) _
    refine tt_k 2 (S' := (73, [some (.inr (.inl 25)), some (.inl wi), some (.inl hi_), some (.inl pl_), some (.inl dp_), some (.inl ((wi * hi_) * pl_))], [], (n + 1), (ud D (48 + n) (0, ((min 12288 (max ((wi * hi_) * pl_) (2 * ((ln D (p 2504)) : Int))))).toNat)), (us (us (us (us s 2500 wi) 2501 hi_) 2502 pl_) 2503 dp_), (up p 2504 (48 + n)), c6)) rfl ?_
    exact tt_rtv rfl rfl ⟨(n + 1), (ud D (48 + n) (0, ((min 12288 (max ((wi * hi_) * pl_) (2 * ((ln D (p 2504)) : Int))))).toNat)), (us (us (us (us s 2500 wi) 2501 hi_) 2502 pl_) 2503 dp_), (up p 2504 (48 + n)), c6, rfl, rfl, (bS_us (bS_us (bS_us (bS_us hS (show 0 ≤ wi ∧ wi ≤ 64 by omega)) (show 0 ≤ hi_ ∧ hi_ ≤ 64 by omega)) (show 0 ≤ pl_ ∧ pl_ ≤ 3 by omega)) (show 0 ≤ dp_ ∧ dp_ ≤ 16 by omega)), hC6, (wp_rs25 hW (by omega) (by omega) (by omega) (by omega) (by omega) (by omega)), (fr_us (by decide) (fr_us (by decide) (fr_us (by decide) (fr_us (by decide) fr_rf)))), (frp_up (by decide) frp_rf), (ext_tr ext_rf ext_1), (fk_np (k := 2504) (fk_rf hD) (by decide) ec6), rfl, rfl, rfl, rfl, by show ∀ i : Nat, (i : Int) < wi * hi_ * pl_ → c6 (48 + n) i = 0; intro i hi; rw [ec6, uc_eq]⟩
set_option maxRecDepth 100000 in
set_option maxHeartbeats 4000000 in
theorem g_reshape27 {g : Nat → Int} {Zi : Nat → Option (Nat × (Nat → Int))} {d n q : Nat} {D : Nat → Nat × Nat} {s : Nat → Int} {p : Nat → Nat} {c : Nat → Nat → Int} (hd : 1 ≤ d) (hz : zk Zi) (hq : q + 2 ≤ 400000) (hD : wd n p) (hS : bS s) (hC : bC D c) (hW : wp q g n D p s) (wi : Int) (hi_ : Int) (pl_ : Int) (dp_ : Int) (b_wi : 1 ≤ wi ∧ wi ≤ 64) (b_hi_ : 1 ≤ hi_ ∧ hi_ ≤ 64) (b_pl_ : 1 ≤ pl_ ∧ pl_ ≤ 3) (b_dp_ : 2 ≤ dp_ ∧ dp_ ≤ 16) : tt Zi d 12 (0, [some (.inr (.inl 27)), some (.inl wi), some (.inl hi_), some (.inl pl_), some (.inl dp_), none], [], n, D, s, p, c) (fun R H => ∃ (n' : Nat) (D' : Nat → Nat × Nat) (s' : Nat → Int) (p' : Nat → Nat) (c' : Nat → Nat → Int), R = .inl none ∧ H = (n', D', s', p', c') ∧ bS s' ∧ bC D' c' ∧ wp q g n' D' p' s' ∧ fr s s' [2700, 2701, 2702, 2703] ∧ frp p p' [2704] ∧ ext n D n' D' ∧ fk p c n' p' c' [2704] ∧ (s' 2700 = wi) ∧ (s' 2701 = hi_) ∧ (s' 2702 = pl_) ∧ (s' 2703 = dp_) ∧ (∀ i : Nat, (i : Int) < wi * hi_ * pl_ → c' (p' 2704) i = 0)) := by
  have b1 : ln D (p 2704) ≤ 12288 := (hW).p27.2.2
  have hm1 := mul_bd (e := wi) (st := hi_) (a := 64) (b := 64) (by omega) (by omega) (by omega) (by omega) (by omega)
  have hm2 := mul_bd (e := wi * hi_) (st := pl_) (a := 4096) (b := 3) (by omega) (by omega) (by omega) (by omega) (by omega)
  have hm3 : 0 ≤ wi * hi_ * pl_ := Int.mul_nonneg (Int.mul_nonneg (by omega) (by omega)) (by omega)
  refine tt_k 14 (S' := (23, [some (.inr (.inl 27)), some (.inl wi), some (.inl hi_), some (.inl pl_), some (.inl dp_), none], [.inl hi_, .inl wi], n, D, (us (us (us (us s 2700 wi) 2701 hi_) 2702 pl_) 2703 dp_), p, c)) rfl ?_
  refine tt_k 6 (S' := (32, [some (.inr (.inl 27)), some (.inl wi), some (.inl hi_), some (.inl pl_), some (.inl dp_), some (.inl ((wi * hi_) * pl_))], [.inr (.inl (p 2704))], n, D, (us (us (us (us s 2700 wi) 2701 hi_) 2702 pl_) 2703 dp_), p, c)) rfl ?_
  refine tt_len (m := (ln D (p 2704))) rfl ((hW).p27.1) rfl ?_
  show tt Zi d 12 (33, [some (.inr (.inl 27)), some (.inl wi), some (.inl hi_), some (.inl pl_), some (.inl dp_), some (.inl ((wi * hi_) * pl_))], [.inl (((ln D (p 2704)) : Int))], n, D, (us (us (us (us s 2700 wi) 2701 hi_) 2702 pl_) 2703 dp_), p, c) _
  refine tt_k 1 (S' := (35, [some (.inr (.inl 27)), some (.inl wi), some (.inl hi_), some (.inl pl_), some (.inl dp_), some (.inl ((wi * hi_) * pl_))], [.inl ((wi * hi_) * pl_), .inl (((ln D (p 2704)) : Int))], n, D, (us (us (us (us s 2700 wi) 2701 hi_) 2702 pl_) 2703 dp_), p, c)) rfl ?_
  refine tb_ge (x := ((ln D (p 2704)) : Int)) (y := ((wi * hi_) * pl_)) rfl rfl (by omega) (fun h2 => ?_) (fun h2 => ?_)
  · show tt Zi d 12 (65, [some (.inr (.inl 27)), some (.inl wi), some (.inl hi_), some (.inl pl_), some (.inl dp_), some (.inl ((wi * hi_) * pl_))], [], n, D, (us (us (us (us s 2700 wi) 2701 hi_) 2702 pl_) 2703 dp_), p, c) _
    refine tt_k 3 (S' := (70, [some (.inr (.inl 27)), some (.inl wi), some (.inl hi_), some (.inl pl_), some (.inl dp_), some (.inl ((wi * hi_) * pl_))], [.inl 0, .inr (.inl (p 2704))], n, D, (us (us (us (us s 2700 wi) 2701 hi_) 2702 pl_) 2703 dp_), p, c)) rfl ?_
    refine tt_cl (by omega) rfl (g_fill (A := (p 2704)) (m := (ln D (p 2704))) (s := (us (us (us (us s 2700 wi) 2701 hi_) 2702 pl_) 2703 dp_)) (p := p) ((hW).p27.1) (by omega) (by rw [(show bC_lo D (p 2704) = 0 ∧ bC_hi D (p 2704) = 65535 from ((hW).p27.2.1)).1, (show bC_lo D (p 2704) = 0 ∧ bC_hi D (p 2704) = 65535 from ((hW).p27.2.1)).2]; decide) hC) ?_
    rintro _ _ ⟨c3, rfl, rfl, hC3, fc3, ec3, zc3⟩
    show tt Zi d 12 (73, [some (.inr (.inl 27)), some (.inl wi), some (.inl hi_), some (.inl pl_), some (.inl dp_), some (.inl ((wi * hi_) * pl_))], [], n, D, (us (us (us (us s 2700 wi) 2701 hi_) 2702 pl_) 2703 dp_), p, c3) _
    have FK4 : fk p c n p c3 [2704] := fk_st (k := 2704) (fk_rf hD) ec3 (by decide) rfl
    exact tt_rtv rfl rfl ⟨n, D, (us (us (us (us s 2700 wi) 2701 hi_) 2702 pl_) 2703 dp_), p, c3, rfl, rfl, (bS_us (bS_us (bS_us (bS_us hS (show 0 ≤ wi ∧ wi ≤ 64 by omega)) (show 0 ≤ hi_ ∧ hi_ ≤ 64 by omega)) (show 0 ≤ pl_ ∧ pl_ ≤ 3 by omega)) (show 0 ≤ dp_ ∧ dp_ ≤ 16 by omega)), hC3, (wp_rz27 hW (by omega)), (fr_us (by decide) (fr_us (by decide) (fr_us (by decide) (fr_us (by decide) fr_rf)))), frp_rf, ext_rf, FK4, rfl, rfl, rfl, rfl, by show ∀ i : Nat, (i : Int) < wi * hi_ * pl_ → c3 (p 2704) i = 0; intro i hi; rw [ec3, uc_eq]; exact zc3 i (by omega)⟩
  · show tt Zi d 12 (38, [some (.inr (.inl 27)), some (.inl wi), some (.inl hi_), some (.inl pl_), some (.inl dp_), some (.inl ((wi * hi_) * pl_))], [], n, D, (us (us (us (us s 2700 wi) 2701 hi_) 2702 pl_) 2703 dp_), p, c) _
    refine tt_k 6 (S' := (49, [some (.inr (.inl 27)), some (.inl wi), some (.inl hi_), some (.inl pl_), some (.inl dp_), some (.inl ((wi * hi_) * pl_))], [.inr (.inl (p 2704)), .inl 2, .inl ((wi * hi_) * pl_), .inl 12288, .inr (.inl 27)], n, D, (us (us (us (us s 2700 wi) 2701 hi_) 2702 pl_) 2703 dp_), p, c)) rfl ?_
    refine tt_len (m := (ln D (p 2704))) rfl ((hW).p27.1) rfl ?_
    show tt Zi d 12 (50, [some (.inr (.inl 27)), some (.inl wi), some (.inl hi_), some (.inl pl_), some (.inl dp_), some (.inl ((wi * hi_) * pl_))], [.inl (((ln D (p 2704)) : Int)), .inl 2, .inl ((wi * hi_) * pl_), .inl 12288, .inr (.inl 27)], n, D, (us (us (us (us s 2700 wi) 2701 hi_) 2702 pl_) 2703 dp_), p, c) _
    refine tt_k 1 (S' := (51, [some (.inr (.inl 27)), some (.inl wi), some (.inl hi_), some (.inl pl_), some (.inl dp_), some (.inl ((wi * hi_) * pl_))], [.inl ((2 * ((ln D (p 2704)) : Int))), .inl ((wi * hi_) * pl_), .inl 12288, .inr (.inl 27)], n, D, (us (us (us (us s 2700 wi) 2701 hi_) 2702 pl_) 2703 dp_), p, c)) rfl ?_
    refine tt_max (k := 0) (x := ((wi * hi_) * pl_)) (y := (2 * ((ln D (p 2704)) : Int))) rfl rfl (Nat.le_of_ble_eq_true rfl) (by omega) ?_
    refine tt_min (k := 0) (x := 12288) (y := (max ((wi * hi_) * pl_) (2 * ((ln D (p 2704)) : Int)))) rfl rfl (Nat.le_of_ble_eq_true rfl) (by omega) ?_
    have hn5 := wp_n hW (by omega)
    refine tt_nwb (x := (min 12288 (max ((wi * hi_) * pl_) (2 * ((ln D (p 2704)) : Int))))) (k := 0) rfl rfl (by omega) hC ?_
    intro c6 hC6 ec6
    show tt Zi d 12 (59, [some (.inr (.inl 27)), some (.inl wi), some (.inl hi_), some (.inl pl_), some (.inl dp_), some (.inl ((wi * hi_) * pl_))], [.inr (.inl (48 + n)), .inr (.inl 27)], (n + 1), (ud D (48 + n) (0, ((min 12288 (max ((wi * hi_) * pl_) (2 * ((ln D (p 2704)) : Int))))).toNat)), (us (us (us (us s 2700 wi) 2701 hi_) 2702 pl_) 2703 dp_), p, c6) _
    refine tt_k 2 (S' := (73, [some (.inr (.inl 27)), some (.inl wi), some (.inl hi_), some (.inl pl_), some (.inl dp_), some (.inl ((wi * hi_) * pl_))], [], (n + 1), (ud D (48 + n) (0, ((min 12288 (max ((wi * hi_) * pl_) (2 * ((ln D (p 2704)) : Int))))).toNat)), (us (us (us (us s 2700 wi) 2701 hi_) 2702 pl_) 2703 dp_), (up p 2704 (48 + n)), c6)) rfl ?_
    exact tt_rtv rfl rfl ⟨(n + 1), (ud D (48 + n) (0, ((min 12288 (max ((wi * hi_) * pl_) (2 * ((ln D (p 2704)) : Int))))).toNat)), (us (us (us (us s 2700 wi) 2701 hi_) 2702 pl_) 2703 dp_), (up p 2704 (48 + n)), c6, rfl, rfl, (bS_us (bS_us (bS_us (bS_us hS (show 0 ≤ wi ∧ wi ≤ 64 by omega)) (show 0 ≤ hi_ ∧ hi_ ≤ 64 by omega)) (show 0 ≤ pl_ ∧ pl_ ≤ 3 by omega)) (show 0 ≤ dp_ ∧ dp_ ≤ 16 by omega)), hC6, (wp_rs27 hW (by omega) (by omega) (by omega) (by omega) (by omega) (by omega)), (fr_us (by decide) (fr_us (by decide) (fr_us (by decide) (fr_us (by decide) fr_rf)))), (frp_up (by decide) frp_rf), (ext_tr ext_rf ext_1), (fk_np (k := 2704) (fk_rf hD) (by decide) ec6), rfl, rfl, rfl, rfl, by show ∀ i : Nat, (i : Int) < wi * hi_ * pl_ → c6 (48 + n) i = 0; intro i hi; rw [ec6, uc_eq]⟩
set_option maxRecDepth 100000 in
set_option maxHeartbeats 4000000 in
theorem g_write_L4 {g : Nat → Int} {Zi : Nat → Option (Nat × (Nat → Int))} {d n q : Nat} {D : Nat → Nat × Nat} {s : Nat → Int} {p : Nat → Nat} {c : Nat → Nat → Int} {o_2 : Option mi_V} {Q : mi_Rs → mi_H → Prop} (hd : 2 ≤ d) (hz : zk Zi) (hq : q + 4 ≤ 400001) (hD : wd n p) (hS : bS s) (hC : bC D c) (hW : wp q g n D p s) (U : Int) (v : Int) (b_v : -2147483648 ≤ v ∧ v ≤ 2147483647) (hq0 : U ≤ 1834990)
  (hK : ∀ (k : Int) (n0 : Nat) (D0 : Nat → Nat × Nat) (s0 : Nat → Int) (p0 : Nat → Nat) (c0 : Nat → Nat → Int) (b_k : -2147483648 ≤ k ∧ k ≤ 63) (hS0 : bS s0) (hF0 : fr s s0 [401, 1601, 1602]) (hC0 : bC D0 c0) (hW0 : wp q g n0 D0 p0 s0) (hP0 : frp p p0 [400]) (hE0 : ext n D n0 D0) (hK0 : fk p c n0 p0 c0 [400]) (hc_wo : wo s0) (i0 : 7 * s0 401 - s0 1602 + max 0 (k + 1) ≤ U), (k < 0) → tt Zi d 47 (84, [some (.inr (.inl 16)), some (.inl v), o_2, some (.inl k)], [], n0, D0, s0, p0, c0) Q) :
  ∀ (m : Nat) (k : Int) (n0 : Nat) (D0 : Nat → Nat × Nat) (s0 : Nat → Int) (p0 : Nat → Nat) (c0 : Nat → Nat → Int) (b_k : -2147483648 ≤ k ∧ k ≤ 63) (hS0 : bS s0) (hF0 : fr s s0 [401, 1601, 1602]) (hC0 : bC D0 c0) (hW0 : wp q g n0 D0 p0 s0) (hP0 : frp p p0 [400]) (hE0 : ext n D n0 D0) (hK0 : fk p c n0 p0 c0 [400]) (hc_wo : wo s0) (i0 : 7 * s0 401 - s0 1602 + max 0 (k + 1) ≤ U), (k + 1).toNat < m → tt Zi d 47 (4, [some (.inr (.inl 16)), some (.inl v), o_2, some (.inl k)], [], n0, D0, s0, p0, c0) Q := by
  intro m
  induction m with
  | zero => intro k n0 D0 s0 p0 c0 b_k hS0 hF0 hC0 hW0 hP0 hE0 hK0 hc_wo i0 hm; exact absurd hm (by omega)
  | succ m ih =>
    intro k n0 D0 s0 p0 c0 b_k hS0 hF0 hC0 hW0 hP0 hE0 hK0 hc_wo i0 hm
    have hw0 := w_lo (size := s0 401) hc_wo
    refine tt_k 1 (S' := (5, [some (.inr (.inl 16)), some (.inl v), o_2, some (.inl k)], [.inl k], n0, D0, s0, p0, c0)) rfl ?_
    refine tz_lt (x := k) rfl rfl (by omega) (fun h1 => ?_) (fun h1 => ?_)
    · show tt Zi d 47 (84, [some (.inr (.inl 16)), some (.inl v), o_2, some (.inl k)], [], n0, D0, s0, p0, c0) _
      exact hK k n0 D0 s0 p0 c0 (by omega) hS0 hF0 hC0 hW0 hP0 hE0 hK0 hc_wo (show 7 * (s0 401) - (s0 1602) + max 0 (k + 1) ≤ U by omega) (by omega)
    · show tt Zi d 47 (8, [some (.inr (.inl 16)), some (.inl v), o_2, some (.inl k)], [], n0, D0, s0, p0, c0) _
      refine tt_k 14 (S' := (26, [some (.inr (.inl 16)), some (.inl v), o_2, some (.inl k)], [.inr (.inl 16), .inr (.inl 16)], n0, D0, (us s0 1601 (((2 * (s0 1601)) + (mi_and (mi_shr v k) 1)))), p0, c0)) rfl ?_
      refine tt_k 6 (S' := (38, [some (.inr (.inl 16)), some (.inl v), o_2, some (.inl k)], [.inl ((s0 1602) - 1)], n0, D0, (us (us s0 1601 (((2 * (s0 1601)) + (mi_and (mi_shr v k) 1)))) 1602 ((s0 1602) - 1)), p0, c0)) rfl ?_
      have b2 : 1 ≤ (s0 1602) ∧ (s0 1602) ≤ 8 := hS0 1602
      refine tz_ne (x := ((s0 1602) - 1)) rfl rfl (by omega) (fun h3 => ?_) (fun h3 => ?_)
      · show tt Zi d 47 (78, [some (.inr (.inl 16)), some (.inl v), o_2, some (.inl k)], [], n0, D0, (us (us s0 1601 (((2 * (s0 1601)) + (mi_and (mi_shr v k) 1)))) 1602 ((s0 1602) - 1)), p0, c0) _
        refine tt_k 2 (S' := (4, [some (.inr (.inl 16)), some (.inl v), o_2, some (.inl (k + (-1)))], [], n0, D0, (us (us s0 1601 (((2 * (s0 1601)) + (mi_and (mi_shr v k) 1)))) 1602 ((s0 1602) - 1)), p0, c0)) rfl ?_
        have b4 : 0 ≤ (s0 1601) ∧ (s0 1601) ≤ 255 := hS0 1601
        have e5 := mi_shr_bd v k
        have e6 := mi_and1 (mi_shr v k)
        exact ih (k + (-1)) n0 D0 (us (us s0 1601 (((2 * (s0 1601)) + (mi_and (mi_shr v k) 1)))) 1602 ((s0 1602) - 1)) p0 c0 (by omega) (bS_us (bS_us hS0 (show 0 ≤ ((2 * (s0 1601)) + (mi_and (mi_shr v k) 1)) ∧ ((2 * (s0 1601)) + (mi_and (mi_shr v k) 1)) ≤ 255 by omega)) (show 1 ≤ ((s0 1602) - 1) ∧ ((s0 1602) - 1) ≤ 8 by omega)) (fr_us (by decide) (fr_us (by decide) hF0)) hC0 (wp_w12 hW0 (by first | exact Or.inl (by omega) | exact Or.inr (w_bit1 (size := 0) hc_wo (by omega) (by omega)).1)) hP0 hE0 hK0 (show w_ok ((2 * (s0 1601)) + (mi_and (mi_shr v k) 1)) ((s0 1602) - 1) from (w_bit1 (size := 0) hc_wo (by omega) (by omega)).1) (show 7 * (s0 401) - ((s0 1602) - 1) + max 0 ((k + (-1)) + 1) ≤ U by omega) (show ((k + (-1)) + 1).toNat < m by omega)
      · show tt Zi d 47 (41, [some (.inr (.inl 16)), some (.inl v), o_2, some (.inl k)], [], n0, D0, (us (us s0 1601 (((2 * (s0 1601)) + (mi_and (mi_shr v k) 1)))) 1602 ((s0 1602) - 1)), p0, c0) _
        refine tt_k 4 (S' := (49, [some (.inr (.inl 16)), some (.inl v), o_2, some (.inl k)], [.inl (((2 * (s0 1601)) + (mi_and (mi_shr v k) 1))), .inr (.inl 4)], n0, D0, (us (us s0 1601 (((2 * (s0 1601)) + (mi_and (mi_shr v k) 1)))) 1602 ((s0 1602) - 1)), p0, c0)) rfl ?_
        have b7 : 0 ≤ (s0 1601) ∧ (s0 1601) ≤ 255 := hS0 1601
        have e8 := mi_shr_bd v k
        have e9 := mi_and1 (mi_shr v k)
        have b10 : 0 ≤ (s0 401) ∧ (s0 401) ≤ 262144 := hS0 401
        refine tt_cl (by omega) rfl (g_add4x (Zi := Zi) (q := q) (n := n0) (D := D0) (s := (us (us s0 1601 (((2 * (s0 1601)) + (mi_and (mi_shr v k) 1)))) 1602 ((s0 1602) - 1))) (p := p0) (c := c0) (by omega) hz (by omega) hK0.1 (by rw [us_us]; exact bS_us (bS_us hS0 (show 0 ≤ ((2 * (s0 1601)) + (mi_and (mi_shr v k) 1)) ∧ ((2 * (s0 1601)) + (mi_and (mi_shr v k) 1)) ≤ 255 by omega)) (by decide)) hC0 (wp_w12 hW0 (by first | exact Or.inl (by omega) | exact Or.inr (w_bit1 (size := 0) hc_wo (by omega) (by omega)).1)) (((2 * (s0 1601)) + (mi_and (mi_shr v k) 1))) (by omega) (show (s0 401) ≤ 262143 by omega)) ?_
        rintro _ _ ⟨n11, D12, s13, p14, c15, rfl, rfl, hS13, hC15, hW16, f17, g18, xe19, kf20, k21⟩
        have FK22 : fk p c n11 p14 c15 [400] := fk_tr hK0 kf20 (by decide)
        show tt Zi d 47 (52, [some (.inr (.inl 16)), some (.inl v), o_2, some (.inl k)], [], n11, D12, s13, p14, c15) _
        replace k21 : (s13 401) = (s0 401) + 1 := k21
        have b23 : 0 ≤ (s13 401) ∧ (s13 401) ≤ 262144 := hS13 401
        have e24 : s13 1601 = ((2 * (s0 1601)) + (mi_and (mi_shr v k) 1)) := (f17 1601 (by decide))
        have b25 : 0 ≤ (s13 1601) ∧ (s13 1601) ≤ 255 := hS13 1601
        have e26 : s13 1602 = ((s0 1602) - 1) := (f17 1602 (by decide))
        refine tt_k 4 (S' := (60, [some (.inr (.inl 16)), some (.inl v), o_2, some (.inl k)], [.inl 255, .inl (s13 1601), .inr (.inl 16)], n11, D12, s13, p14, c15)) rfl ?_
        have K28 : ∀ (j27 : Int) , (7 ≤ j27 ∧ j27 ≤ 8) → (((s13 1601) ≠ 255 ∧ j27 = 8) ∨ ((s13 1601) = 255 ∧ j27 = 7)) → tt Zi d 47 (70, [some (.inr (.inl 16)), some (.inl v), o_2, some (.inl k)], [.inl j27, .inr (.inl 16)], n11, D12, s13, p14, c15) Q := by
          intro j27 b30 hj29
          refine tt_k 6 (S' := (4, [some (.inr (.inl 16)), some (.inl v), o_2, some (.inl (k + (-1)))], [], n11, D12, (us (us s13 1602 j27) 1601 0), p14, c15)) rfl ?_
          exact ih (k + (-1)) n11 D12 (us (us s13 1602 j27) 1601 0) p14 c15 (by omega) (bS_us (bS_uu hS13 (show 1 ≤ j27 ∧ j27 ≤ 8 by omega)) (show 0 ≤ 0 ∧ 0 ≤ 255 by omega)) (fr_us (by decide) (fr_us (by decide) (fr_tr (fr_us (by decide) (fr_us (by decide) hF0)) f17 (by decide)))) hC15 (wp_w21 hW16 (Or.inr (w_ok0 (by omega)))) (frp_tr hP0 g18 (by decide)) (ext_tr hE0 xe19) FK22 (show w_ok 0 j27 from w_ok0 (by omega)) (show 7 * (s13 401) - j27 + max 0 ((k + (-1)) + 1) ≤ U by omega) (show ((k + (-1)) + 1).toNat < m by omega)
        refine tb_ne (x := (s13 1601)) (y := 255) rfl rfl (by omega) (fun h31 => ?_) (fun h31 => ?_)
        · show tt Zi d 47 (68, [some (.inr (.inl 16)), some (.inl v), o_2, some (.inl k)], [.inr (.inl 16)], n11, D12, s13, p14, c15) _
          refine tt_k 1 (S' := (70, [some (.inr (.inl 16)), some (.inl v), o_2, some (.inl k)], [.inl 8, .inr (.inl 16)], n11, D12, s13, p14, c15)) rfl ?_
          exact K28 8  (by omega) (Or.inl ⟨h31, rfl⟩)
        · show tt Zi d 47 (63, [some (.inr (.inl 16)), some (.inl v), o_2, some (.inl k)], [.inr (.inl 16)], n11, D12, s13, p14, c15) _
          refine tt_k 2 (S' := (70, [some (.inr (.inl 16)), some (.inl v), o_2, some (.inl k)], [.inl 7, .inr (.inl 16)], n11, D12, s13, p14, c15)) rfl ?_
          exact K28 7  (by omega) (Or.inr (⟨h31, rfl⟩))
set_option maxRecDepth 100000 in
set_option maxHeartbeats 4000000 in
theorem g_write {g : Nat → Int} {Zi : Nat → Option (Nat × (Nat → Int))} {d n q : Nat} {D : Nat → Nat × Nat} {s : Nat → Int} {p : Nat → Nat} {c : Nat → Nat → Int} (hd : 2 ≤ d) (hz : zk Zi) (hq : q + 4 ≤ 400000) (hD : wd n p) (hS : bS s) (hC : bC D c) (hW : wp q g n D p s) (v : Int) (n_ : Int) (b_v : -2147483648 ≤ v ∧ v ≤ 2147483647) (b_n_ : -2147483647 ≤ n_ ∧ n_ ≤ 64) (hp0 : wo s) (hp1 : 7 * s 401 - s 1602 + 64 ≤ 1834990) : tt Zi d 47 (0, [some (.inr (.inl 16)), some (.inl v), some (.inl n_), none], [], n, D, s, p, c) (fun R H => ∃ (n' : Nat) (D' : Nat → Nat × Nat) (s' : Nat → Int) (p' : Nat → Nat) (c' : Nat → Nat → Int), R = .inl none ∧ H = (n', D', s', p', c') ∧ bS s' ∧ bC D' c' ∧ wp q g n' D' p' s' ∧ fr s s' [401, 1601, 1602] ∧ frp p p' [400] ∧ ext n D n' D' ∧ fk p c n' p' c' [400] ∧ (wo s') ∧ (7 * s' 401 - s' 1602 ≤ 7 * s 401 - s 1602 + max 0 n_)) := by
  have hw0 := w_lo (size := s 401) hp0
  refine tt_k 4 (S' := (4, [some (.inr (.inl 16)), some (.inl v), some (.inl n_), some (.inl (n_ - 1))], [], n, D, s, p, c)) rfl ?_
  refine g_write_L4 (Zi := Zi) (q := q) (n := n) (D := D) (s := s) (p := p) (c := c) hd hz (by omega) hD hS hC hW (7 * s 401 - s 1602 + max 0 n_) v (by omega) (show (7 * s 401 - s 1602 + max 0 n_) ≤ 1834990 by omega)  ?_ _ (n_ - 1) n D s p c (by omega) hS fr_rf hC hW frp_rf ext_rf (fk_rf hD) hp0 (show 7 * ((s 401)) - ((s 1602)) + max 0 ((n_ - 1) + 1) ≤ (7 * s 401 - s 1602 + max 0 n_) by omega) (Nat.lt_succ_self _)
  intro x1 n2 D3 s4 p5 c6 b7 hS4 f8 hC6 hW9 g10 xe11 kf12 hc13 i14 hx15
  show tt Zi d 47 (84, [some (.inr (.inl 16)), some (.inl v), some (.inl n_), some (.inl x1)], [], n2, D3, s4, p5, c6) _
  have FK16 : fk p c n2 p5 c6 [400] := fk_tr (fk_rf hD) kf12 (by decide)
  replace i14 : 7 * (s4 401) - (s4 1602) + max 0 (x1 + 1) ≤ (7 * s 401 - s 1602 + max 0 n_) := i14
  have b17 : 0 ≤ (s4 401) ∧ (s4 401) ≤ 262144 := hS4 401
  have b18 : 1 ≤ (s4 1602) ∧ (s4 1602) ≤ 8 := hS4 1602
  replace hx15 : x1 < 0 := hx15
  exact tt_rtv rfl rfl ⟨n2, D3, s4, p5, c6, rfl, rfl, hS4, hC6, hW9, (fr_tr fr_rf f8 (by decide)), (frp_tr frp_rf g10 (by decide)), (ext_tr ext_rf xe11), FK16, hc13, by show 7 * (s4 401) - (s4 1602) ≤ 7 * s 401 - s 1602 + max 0 n_; omega⟩
set_option maxRecDepth 100000 in
set_option maxHeartbeats 4000000 in
theorem g_writeNumber {g : Nat → Int} {Zi : Nat → Option (Nat × (Nat → Int))} {d n q : Nat} {D : Nat → Nat × Nat} {s : Nat → Int} {p : Nat → Nat} {c : Nat → Nat → Int} (hd : 3 ≤ d) (hz : zk Zi) (hq : q + 6 ≤ 400000) (hD : wd n p) (hS : bS s) (hC : bC D c) (hW : wp q g n D p s) (nu : Int) (k_ : Int) (mz : Int) (wb : Int) (b_nu : -2 ≤ nu ∧ nu ≤ 2000000) (b_k_ : 0 ≤ k_ ∧ k_ ≤ 30) (b_mz : -100 ≤ mz ∧ mz ≤ 63) (b_wb : 0 ≤ wb ∧ wb ≤ 30) (hp0 : wo s) (hp1 : 7 * s 401 - s 1602 + 200 ≤ 1834990) : tt Zi d 46 (0, [some (.inr (.inl 16)), some (.inl nu), some (.inl k_), some (.inl mz), some (.inl wb), none], [], n, D, s, p, c) (fun R H => ∃ (n' : Nat) (D' : Nat → Nat × Nat) (s' : Nat → Int) (p' : Nat → Nat) (c' : Nat → Nat → Int), R = .inl none ∧ H = (n', D', s', p', c') ∧ bS s' ∧ bC D' c' ∧ wp q g n' D' p' s' ∧ fr s s' [401, 1601, 1602] ∧ frp p p' [400] ∧ ext n D n' D' ∧ fk p c n' p' c' [400] ∧ (wo s') ∧ (7 * s' 401 - s' 1602 ≤ 7 * s 401 - s 1602 + 94)) := by
  have hsh := mi_shr_m2 (x := nu) (k := k_) (by omega) (by omega)
  refine tt_k 6 (S' := (8, [some (.inr (.inl 16)), some (.inl nu), some (.inl k_), some (.inl mz), some (.inl wb), some (.inl (mi_shr nu k_))], [.inl mz, .inl (mi_shr nu k_)], n, D, s, p, c)) rfl ?_
  have e1 := mi_shr_bd nu k_
  refine tb_ge (x := (mi_shr nu k_)) (y := mz) rfl rfl (by omega) (fun h2 => ?_) (fun h2 => ?_)
  · show tt Zi d 46 (33, [some (.inr (.inl 16)), some (.inl nu), some (.inl k_), some (.inl mz), some (.inl wb), some (.inl (mi_shr nu k_))], [], n, D, s, p, c) _
    refine tt_k 3 (S' := (36, [some (.inr (.inl 16)), some (.inl nu), some (.inl k_), some (.inl mz), some (.inl wb), some (.inl (mi_shr nu k_))], [.inl mz, .inl 0, .inr (.inl 16)], n, D, s, p, c)) rfl ?_
    have b3 : 0 ≤ (s 401) ∧ (s 401) ≤ 262144 := hS 401
    have b4 : 1 ≤ (s 1602) ∧ (s 1602) ≤ 8 := hS 1602
    refine tt_cl (by omega) rfl (g_write (Zi := Zi) (q := q) (n := n) (D := D) (s := s) (p := p) (c := c) (by omega) hz (by omega) hD hS hC hW 0 mz (by omega) (by omega) hp0 (show 7 * (s 401) - (s 1602) + 64 ≤ 1834990 by omega)) ?_
    rintro _ _ ⟨n5, D6, s7, p8, c9, rfl, rfl, hS7, hC9, hW10, f11, g12, xe13, kf14, k15, k16⟩
    have FK17 : fk p c n5 p8 c9 [400] := fk_tr (fk_rf hD) kf14 (by decide)
    show tt Zi d 46 (39, [some (.inr (.inl 16)), some (.inl nu), some (.inl k_), some (.inl mz), some (.inl wb), some (.inl (mi_shr nu k_))], [], n5, D6, s7, p8, c9) _
    replace k16 : 7 * (s7 401) - (s7 1602) ≤ 7 * (s 401) - (s 1602) + max 0 mz := k16
    have b18 : 0 ≤ (s7 401) ∧ (s7 401) ≤ 262144 := hS7 401
    have b19 : 1 ≤ (s7 1602) ∧ (s7 1602) ≤ 8 := hS7 1602
    refine tt_k 3 (S' := (42, [some (.inr (.inl 16)), some (.inl nu), some (.inl k_), some (.inl mz), some (.inl wb), some (.inl (mi_shr nu k_))], [.inl 1, .inl 1, .inr (.inl 16)], n5, D6, s7, p8, c9)) rfl ?_
    refine tt_cl (by omega) rfl (g_write (Zi := Zi) (q := q) (n := n5) (D := D6) (s := s7) (p := p8) (c := c9) (by omega) hz (by omega) FK17.1 hS7 hC9 hW10 1 1 (by omega) (by omega) k15 (show 7 * (s7 401) - (s7 1602) + 64 ≤ 1834990 by omega)) ?_
    rintro _ _ ⟨n20, D21, s22, p23, c24, rfl, rfl, hS22, hC24, hW25, f26, g27, xe28, kf29, k30, k31⟩
    have FK32 : fk p c n20 p23 c24 [400] := fk_tr FK17 kf29 (by decide)
    show tt Zi d 46 (45, [some (.inr (.inl 16)), some (.inl nu), some (.inl k_), some (.inl mz), some (.inl wb), some (.inl (mi_shr nu k_))], [], n20, D21, s22, p23, c24) _
    replace k31 : 7 * (s22 401) - (s22 1602) ≤ 7 * (s7 401) - (s7 1602) + max 0 1 := k31
    have b33 : 0 ≤ (s22 401) ∧ (s22 401) ≤ 262144 := hS22 401
    have b34 : 1 ≤ (s22 1602) ∧ (s22 1602) ≤ 8 := hS22 1602
    refine tt_k 5 (S' := (51, [some (.inr (.inl 16)), some (.inl nu), some (.inl k_), some (.inl mz), some (.inl wb), some (.inl (mi_shr nu k_))], [.inl wb, .inl (nu - 1), .inr (.inl 16)], n20, D21, s22, p23, c24)) rfl ?_
    refine tt_cl (by omega) rfl (g_write (Zi := Zi) (q := q) (n := n20) (D := D21) (s := s22) (p := p23) (c := c24) (by omega) hz (by omega) FK32.1 hS22 hC24 hW25 (nu - 1) wb (by omega) (by omega) k30 (show 7 * (s22 401) - (s22 1602) + 64 ≤ 1834990 by omega)) ?_
    rintro _ _ ⟨n35, D36, s37, p38, c39, rfl, rfl, hS37, hC39, hW40, f41, g42, xe43, kf44, k45, k46⟩
    have FK47 : fk p c n35 p38 c39 [400] := fk_tr FK32 kf44 (by decide)
    show tt Zi d 46 (54, [some (.inr (.inl 16)), some (.inl nu), some (.inl k_), some (.inl mz), some (.inl wb), some (.inl (mi_shr nu k_))], [], n35, D36, s37, p38, c39) _
    replace k46 : 7 * (s37 401) - (s37 1602) ≤ 7 * (s22 401) - (s22 1602) + max 0 wb := k46
    have b48 : 0 ≤ (s37 401) ∧ (s37 401) ≤ 262144 := hS37 401
    have b49 : 1 ≤ (s37 1602) ∧ (s37 1602) ≤ 8 := hS37 1602
    exact tt_rtv rfl rfl ⟨n35, D36, s37, p38, c39, rfl, rfl, hS37, hC39, hW40, (fr_tr (fr_tr (fr_tr fr_rf f11 (by decide)) f26 (by decide)) f41 (by decide)), (frp_tr (frp_tr (frp_tr frp_rf g12 (by decide)) g27 (by decide)) g42 (by decide)), (ext_tr (ext_tr (ext_tr ext_rf xe13) xe28) xe43), FK47, k45, by show 7 * (s37 401) - (s37 1602) ≤ 7 * s 401 - s 1602 + 94; omega⟩
  · show tt Zi d 46 (11, [some (.inr (.inl 16)), some (.inl nu), some (.inl k_), some (.inl mz), some (.inl wb), some (.inl (mi_shr nu k_))], [], n, D, s, p, c) _
    refine tt_k 3 (S' := (15, [some (.inr (.inl 16)), some (.inl nu), some (.inl k_), some (.inl mz), some (.inl wb), some (.inl (mi_shr nu k_))], [.inl (mi_shr nu k_), .inl 0, .inr (.inl 16)], n, D, s, p, c)) rfl ?_
    have b50 : 0 ≤ (s 401) ∧ (s 401) ≤ 262144 := hS 401
    have b51 : 1 ≤ (s 1602) ∧ (s 1602) ≤ 8 := hS 1602
    refine tt_cl (by omega) rfl (g_write (Zi := Zi) (q := q) (n := n) (D := D) (s := s) (p := p) (c := c) (by omega) hz (by omega) hD hS hC hW 0 (mi_shr nu k_) (by omega) (by omega) hp0 (show 7 * (s 401) - (s 1602) + 64 ≤ 1834990 by omega)) ?_
    rintro _ _ ⟨n52, D53, s54, p55, c56, rfl, rfl, hS54, hC56, hW57, f58, g59, xe60, kf61, k62, k63⟩
    have FK64 : fk p c n52 p55 c56 [400] := fk_tr (fk_rf hD) kf61 (by decide)
    show tt Zi d 46 (18, [some (.inr (.inl 16)), some (.inl nu), some (.inl k_), some (.inl mz), some (.inl wb), some (.inl (mi_shr nu k_))], [], n52, D53, s54, p55, c56) _
    replace k63 : 7 * (s54 401) - (s54 1602) ≤ 7 * (s 401) - (s 1602) + max 0 (mi_shr nu k_) := k63
    have b65 : 0 ≤ (s54 401) ∧ (s54 401) ≤ 262144 := hS54 401
    have b66 : 1 ≤ (s54 1602) ∧ (s54 1602) ≤ 8 := hS54 1602
    refine tt_k 3 (S' := (21, [some (.inr (.inl 16)), some (.inl nu), some (.inl k_), some (.inl mz), some (.inl wb), some (.inl (mi_shr nu k_))], [.inl 1, .inl 1, .inr (.inl 16)], n52, D53, s54, p55, c56)) rfl ?_
    refine tt_cl (by omega) rfl (g_write (Zi := Zi) (q := q) (n := n52) (D := D53) (s := s54) (p := p55) (c := c56) (by omega) hz (by omega) FK64.1 hS54 hC56 hW57 1 1 (by omega) (by omega) k62 (show 7 * (s54 401) - (s54 1602) + 64 ≤ 1834990 by omega)) ?_
    rintro _ _ ⟨n67, D68, s69, p70, c71, rfl, rfl, hS69, hC71, hW72, f73, g74, xe75, kf76, k77, k78⟩
    have FK79 : fk p c n67 p70 c71 [400] := fk_tr FK64 kf76 (by decide)
    show tt Zi d 46 (24, [some (.inr (.inl 16)), some (.inl nu), some (.inl k_), some (.inl mz), some (.inl wb), some (.inl (mi_shr nu k_))], [], n67, D68, s69, p70, c71) _
    replace k78 : 7 * (s69 401) - (s69 1602) ≤ 7 * (s54 401) - (s54 1602) + max 0 1 := k78
    have b80 : 0 ≤ (s69 401) ∧ (s69 401) ≤ 262144 := hS69 401
    have b81 : 1 ≤ (s69 1602) ∧ (s69 1602) ≤ 8 := hS69 1602
    refine tt_k 3 (S' := (27, [some (.inr (.inl 16)), some (.inl nu), some (.inl k_), some (.inl mz), some (.inl wb), some (.inl (mi_shr nu k_))], [.inl k_, .inl nu, .inr (.inl 16)], n67, D68, s69, p70, c71)) rfl ?_
    refine tt_cl (by omega) rfl (g_write (Zi := Zi) (q := q) (n := n67) (D := D68) (s := s69) (p := p70) (c := c71) (by omega) hz (by omega) FK79.1 hS69 hC71 hW72 nu k_ (by omega) (by omega) k77 (show 7 * (s69 401) - (s69 1602) + 64 ≤ 1834990 by omega)) ?_
    rintro _ _ ⟨n82, D83, s84, p85, c86, rfl, rfl, hS84, hC86, hW87, f88, g89, xe90, kf91, k92, k93⟩
    have FK94 : fk p c n82 p85 c86 [400] := fk_tr FK79 kf91 (by decide)
    show tt Zi d 46 (30, [some (.inr (.inl 16)), some (.inl nu), some (.inl k_), some (.inl mz), some (.inl wb), some (.inl (mi_shr nu k_))], [], n82, D83, s84, p85, c86) _
    replace k93 : 7 * (s84 401) - (s84 1602) ≤ 7 * (s69 401) - (s69 1602) + max 0 k_ := k93
    have b95 : 0 ≤ (s84 401) ∧ (s84 401) ≤ 262144 := hS84 401
    have b96 : 1 ≤ (s84 1602) ∧ (s84 1602) ≤ 8 := hS84 1602
    refine tt_k 1 (S' := (54, [some (.inr (.inl 16)), some (.inl nu), some (.inl k_), some (.inl mz), some (.inl wb), some (.inl (mi_shr nu k_))], [], n82, D83, s84, p85, c86)) rfl ?_
    exact tt_rtv rfl rfl ⟨n82, D83, s84, p85, c86, rfl, rfl, hS84, hC86, hW87, (fr_tr (fr_tr (fr_tr fr_rf f58 (by decide)) f73 (by decide)) f88 (by decide)), (frp_tr (frp_tr (frp_tr frp_rf g59 (by decide)) g74 (by decide)) g89 (by decide)), (ext_tr (ext_tr (ext_tr ext_rf xe60) xe75) xe90), FK94, k92, by show 7 * (s84 401) - (s84 1602) ≤ 7 * s 401 - s 1602 + 94; omega⟩
set_option maxRecDepth 100000 in
set_option maxHeartbeats 4000000 in
theorem g_finish {g : Nat → Int} {Zi : Nat → Option (Nat × (Nat → Int))} {d n q : Nat} {D : Nat → Nat × Nat} {s : Nat → Int} {p : Nat → Nat} {c : Nat → Nat → Int} (hd : 2 ≤ d) (hz : zk Zi) (hq : q + 4 ≤ 400000) (hD : wd n p) (hS : bS s) (hC : bC D c) (hW : wp q g n D p s) (hp0 : s 401 ≤ 262143) : tt Zi d 114 (0, [some (.inr (.inl 16))], [], n, D, s, p, c) (fun R H => ∃ (n' : Nat) (D' : Nat → Nat × Nat) (s' : Nat → Int) (p' : Nat → Nat) (c' : Nat → Nat → Int), R = .inl none ∧ H = (n', D', s', p', c') ∧ bS s' ∧ bC D' c' ∧ wp q g n' D' p' s' ∧ fr s s' [401, 1601, 1602] ∧ frp p p' [400] ∧ ext n D n' D' ∧ fk p c n' p' c' [400] ∧ (wo s') ∧ (s' 401 ≤ s 401 + 1) ∧ (s' 1602 = 8)) := by
  refine tt_k 3 (S' := (6, [some (.inr (.inl 16))], [.inl 8, .inl (s 1602)], n, D, s, p, c)) rfl ?_
  have b1 : 1 ≤ (s 1602) ∧ (s 1602) ≤ 8 := hS 1602
  refine tb_ge (x := (s 1602)) (y := 8) rfl rfl (by omega) (fun h2 => ?_) (fun h2 => ?_)
  · show tt Zi d 114 (25, [some (.inr (.inl 16))], [], n, D, s, p, c) _
    refine tt_k 6 (S' := (36, [some (.inr (.inl 16))], [], n, D, (us (us s 1602 8) 1601 0), p, c)) rfl ?_
    exact tt_rtv rfl rfl ⟨n, D, (us (us s 1602 8) 1601 0), p, c, rfl, rfl, (bS_us (bS_us hS (show 1 ≤ 8 ∧ 8 ≤ 8 by omega)) (show 0 ≤ 0 ∧ 0 ≤ 255 by omega)), hC, (wp_w21 hW (Or.inr (w_ok0 (by omega)))), (fr_us (by decide) (fr_us (by decide) fr_rf)), frp_rf, ext_rf, (fk_rf hD), (show w_ok 0 8 from w_ok0 (Or.inr rfl)), by show (s 401) ≤ s 401 + 1; omega, rfl⟩
  · show tt Zi d 114 (9, [some (.inr (.inl 16))], [], n, D, s, p, c) _
    refine tt_k 7 (S' := (22, [some (.inr (.inl 16))], [.inl (mi_shl (s 1601) (s 1602)), .inr (.inl 4)], n, D, s, p, c)) rfl ?_
    have b3 : 0 ≤ (s 1601) ∧ (s 1601) ≤ 255 := hS 1601
    have e4 := mi_shl_bd (s 1601) (s 1602)
    have b5 : 0 ≤ (s 401) ∧ (s 401) ≤ 262144 := hS 401
    refine tt_cl (by omega) rfl (g_add4 (Zi := Zi) (q := q) (n := n) (D := D) (s := s) (p := p) (c := c) (by omega) hz (by omega) hD hS hC hW (mi_shl (s 1601) (s 1602)) (by omega) (show (s 401) ≤ 262143 by omega)) ?_
    rintro _ _ ⟨n6, D7, s8, p9, c10, rfl, rfl, hS8, hC10, hW11, f12, g13, xe14, kf15, k16⟩
    have FK17 : fk p c n6 p9 c10 [400] := fk_tr (fk_rf hD) kf15 (by decide)
    show tt Zi d 114 (25, [some (.inr (.inl 16))], [], n6, D7, s8, p9, c10) _
    replace k16 : (s8 401) = (s 401) + 1 := k16
    have b18 : 0 ≤ (s8 401) ∧ (s8 401) ≤ 262144 := hS8 401
    refine tt_k 6 (S' := (36, [some (.inr (.inl 16))], [], n6, D7, (us (us s8 1602 8) 1601 0), p9, c10)) rfl ?_
    exact tt_rtv rfl rfl ⟨n6, D7, (us (us s8 1602 8) 1601 0), p9, c10, rfl, rfl, (bS_us (bS_us hS8 (show 1 ≤ 8 ∧ 8 ≤ 8 by omega)) (show 0 ≤ 0 ∧ 0 ≤ 255 by omega)), hC10, (wp_w21 hW11 (Or.inr (w_ok0 (by omega)))), (fr_us (by decide) (fr_us (by decide) (fr_tr fr_rf f12 (by decide)))), (frp_tr frp_rf g13 (by decide)), (ext_tr ext_rf xe14), FK17, (show w_ok 0 8 from w_ok0 (Or.inr rfl)), by show (s8 401) ≤ s 401 + 1; omega, rfl⟩
