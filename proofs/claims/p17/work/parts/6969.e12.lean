/-! the class's small calls, exactly -/
set_option maxRecDepth 100000 in
set_option maxHeartbeats 4000000 in
theorem e_get4 {g : Nat → Int} {Zi : Nat → Option (Nat × (Nat → Int))} {d n q : Nat} {D : Nat → Nat × Nat} {s : Nat → Int} {p : Nat → Nat} {c : Nat → Nat → Int} (hd : 0 ≤ d) (hz : zk Zi) (hq : q + 0 ≤ 400000) (hD : wd n p) (hS : bS s) (hC : bC D c) (hW : wp q g n D p s) (i : Int) (b_i : -2147483648 ≤ i ∧ i ≤ 2147483647) (hp0 : 0 ≤ i ∧ i < (ln D (p 400) : Int)) : tt Zi d 21 (0, [some (.inr (.inl 4)), some (.inl i)], [], n, D, s, p, c) (fun R H => ∃ (r : Int), R = .inl (some (.inl r)) ∧ H = (n, D, s, p, c) ∧ (0 ≤ r ∧ r ≤ 255) ∧ (r = mi_and (c (p 400) i.toNat) 255)) := by
  have b1 := wp_l4 hW
  refine tt_k 3 (S' := (5, [some (.inr (.inl 4)), some (.inl i)], [.inl i, .inr (.inl (p 400))], n, D, s, p, c)) rfl ?_
  refine tt_blb (i := i) (m := (ln D (p 400))) (lo := -128) (hi := 127) rfl ((hW).r4.1) (by omega) hC ((hW).r4.2) ?_
  intro v2 b3 hvv2
  show tt Zi d 21 (6, [some (.inr (.inl 4)), some (.inl i)], [.inl v2], n, D, s, p, c) _
  refine tt_k 2 (S' := (10, [some (.inr (.inl 4)), some (.inl i)], [.inl (mi_and v2 255)], n, D, s, p, c)) rfl ?_
  have e4 := mi_and255 v2
  exact tt_rti rfl rfl ⟨(mi_and v2 255), rfl, rfl, by omega, by show (mi_and v2 255) = mi_and (c (p 400) i.toNat) 255; rw [hvv2]⟩
set_option maxRecDepth 100000 in
set_option maxHeartbeats 4000000 in
theorem e_get6 {g : Nat → Int} {Zi : Nat → Option (Nat × (Nat → Int))} {d n q : Nat} {D : Nat → Nat × Nat} {s : Nat → Int} {p : Nat → Nat} {c : Nat → Nat → Int} (hd : 0 ≤ d) (hz : zk Zi) (hq : q + 0 ≤ 400000) (hD : wd n p) (hS : bS s) (hC : bC D c) (hW : wp q g n D p s) (i : Int) (b_i : -2147483648 ≤ i ∧ i ≤ 2147483647) (hp0 : 0 ≤ i ∧ i < (ln D (p 600) : Int)) : tt Zi d 21 (0, [some (.inr (.inl 6)), some (.inl i)], [], n, D, s, p, c) (fun R H => ∃ (r : Int), R = .inl (some (.inl r)) ∧ H = (n, D, s, p, c) ∧ (0 ≤ r ∧ r ≤ 255) ∧ (r = mi_and (c (p 600) i.toNat) 255)) := by
  have b1 := wp_l6 hW
  refine tt_k 3 (S' := (5, [some (.inr (.inl 6)), some (.inl i)], [.inl i, .inr (.inl (p 600))], n, D, s, p, c)) rfl ?_
  refine tt_blb (i := i) (m := (ln D (p 600))) (lo := -128) (hi := 127) rfl ((hW).r6.1) (by omega) hC ((hW).r6.2) ?_
  intro v2 b3 hvv2
  show tt Zi d 21 (6, [some (.inr (.inl 6)), some (.inl i)], [.inl v2], n, D, s, p, c) _
  refine tt_k 2 (S' := (10, [some (.inr (.inl 6)), some (.inl i)], [.inl (mi_and v2 255)], n, D, s, p, c)) rfl ?_
  have e4 := mi_and255 v2
  exact tt_rti rfl rfl ⟨(mi_and v2 255), rfl, rfl, by omega, by show (mi_and v2 255) = mi_and (c (p 600) i.toNat) 255; rw [hvv2]⟩
set_option maxRecDepth 100000 in
set_option maxHeartbeats 4000000 in
theorem e_canvas {g : Nat → Int} {Zi : Nat → Option (Nat × (Nat → Int))} {d n q : Nat} {D : Nat → Nat × Nat} {s : Nat → Int} {p : Nat → Nat} {c : Nat → Nat → Int} (hd : 3 ≤ d) (hz : zk Zi) (hq : q + 6 ≤ 400000) (hD : wd n p) (hS : bS s) (hC : bC D c) (hW : wp q g n D p s) (wi : Int) (hi_ : Int) (pl_ : Int) (dp_ : Int) (b_wi : -2147483648 ≤ wi ∧ wi ≤ 2147483647) (b_hi_ : -2147483648 ≤ hi_ ∧ hi_ ≤ 2147483647) (b_pl_ : -2147483648 ≤ pl_ ∧ pl_ ≤ 2147483647) (b_dp_ : -2147483648 ≤ dp_ ∧ dp_ ≤ 2147483647) : tt Zi d 93 (0, [some (.inr (.inl 0)), some (.inl wi), some (.inl hi_), some (.inl pl_), some (.inl dp_)], [], n, D, s, p, c) (fun R H => (R = .inl none ∧ cXp (q + 1) (us (us (us (us g 100 wi) 101 hi_) 102 pl_) 103 dp_) s p c [3, 104] [100, 101, 102, 103] H ∧ ((1 ≤ wi ∧ wi ≤ 64) ∧ (1 ≤ hi_ ∧ hi_ ≤ 64) ∧ (pl_ = 1 ∨ pl_ = 3) ∧ (2 ≤ dp_ ∧ dp_ ≤ 16)) ∧ (∀ i : Nat, (i : Int) < wi * hi_ * pl_ → H.2.2.2.2 (H.2.2.2.1 104) i = 0) ∧ (∀ i : Nat, i < 5 → H.2.2.2.2 3 i = 0)) ∨ (R = .inr 11 ∧ cXp (q + 1) g s p c [] [800, 801, 802, 803, 804, 805, 806, 807, 808, 809] H ∧ ¬ ((1 ≤ wi ∧ wi ≤ 64) ∧ (1 ≤ hi_ ∧ hi_ ≤ 64) ∧ (pl_ = 1 ∨ pl_ = 3) ∧ (2 ≤ dp_ ∧ dp_ ≤ 16)))) := by
  refine tt_k 1 (S' := (1, [some (.inr (.inl 0)), some (.inl wi), some (.inl hi_), some (.inl pl_), some (.inl dp_)], [.inl wi], n, D, s, p, c)) rfl ?_
  refine tt_cl (by omega) rfl (g_isSide (Zi := Zi) (q := q) (n := n) (D := D) (s := s) (p := p) (c := c) (by omega) hz (by omega) hD hS hC hW wi (by omega)) ?_
  rintro _ _ ⟨r1, rfl, rfl, b2, k3⟩
  show tt Zi d 93 (4, [some (.inr (.inl 0)), some (.inl wi), some (.inl hi_), some (.inl pl_), some (.inl dp_)], [.inl r1], n, D, s, p, c) _
  replace k3 : r1 = 1 ↔ (1 ≤ wi ∧ wi ≤ 64) := k3
  refine tz_eq (x := r1) rfl rfl (by omega) (fun h4 => ?_) (fun h4 => ?_)
  · show tt Zi d 93 (29, [some (.inr (.inl 0)), some (.inl wi), some (.inl hi_), some (.inl pl_), some (.inl dp_)], [], n, D, s, p, c) _
    have hn5 := wp_n hW (by omega)
    exact tt_thr (q := (11, 923)) rfl rfl (by decide) (by decide) (by omega) (by omega) (Or.inr ⟨rfl, cXp_mono (q := q + 1) ⟨⟨hS, bC_x hC (hW).dz (by decide), wp_x hW, fk_x (fk_rf hD), (show fr s s [800, 801, 802, 803, 804, 805, 806, 807, 808, 809] from fr_rf)⟩, ((frp_rf : frp p p [104, 400, 600, 900, 901, 1203, 1204, 1205, 2103, 2104, 2105, 2504, 2704]) 8 (by decide))⟩ (by omega), by omega⟩)
  · show tt Zi d 93 (7, [some (.inr (.inl 0)), some (.inl wi), some (.inl hi_), some (.inl pl_), some (.inl dp_)], [], n, D, s, p, c) _
    refine tt_k 1 (S' := (8, [some (.inr (.inl 0)), some (.inl wi), some (.inl hi_), some (.inl pl_), some (.inl dp_)], [.inl hi_], n, D, s, p, c)) rfl ?_
    refine tt_cl (by omega) rfl (g_isSide (Zi := Zi) (q := q) (n := n) (D := D) (s := s) (p := p) (c := c) (by omega) hz (by omega) hD hS hC hW hi_ (by omega)) ?_
    rintro _ _ ⟨r6, rfl, rfl, b7, k8⟩
    show tt Zi d 93 (11, [some (.inr (.inl 0)), some (.inl wi), some (.inl hi_), some (.inl pl_), some (.inl dp_)], [.inl r6], n, D, s, p, c) _
    replace k8 : r6 = 1 ↔ (1 ≤ hi_ ∧ hi_ ≤ 64) := k8
    refine tz_eq (x := r6) rfl rfl (by omega) (fun h9 => ?_) (fun h9 => ?_)
    · show tt Zi d 93 (29, [some (.inr (.inl 0)), some (.inl wi), some (.inl hi_), some (.inl pl_), some (.inl dp_)], [], n, D, s, p, c) _
      have hn10 := wp_n hW (by omega)
      exact tt_thr (q := (11, 923)) rfl rfl (by decide) (by decide) (by omega) (by omega) (Or.inr ⟨rfl, cXp_mono (q := q + 1) ⟨⟨hS, bC_x hC (hW).dz (by decide), wp_x hW, fk_x (fk_rf hD), (show fr s s [800, 801, 802, 803, 804, 805, 806, 807, 808, 809] from fr_rf)⟩, ((frp_rf : frp p p [104, 400, 600, 900, 901, 1203, 1204, 1205, 2103, 2104, 2105, 2504, 2704]) 8 (by decide))⟩ (by omega), by omega⟩)
    · show tt Zi d 93 (14, [some (.inr (.inl 0)), some (.inl wi), some (.inl hi_), some (.inl pl_), some (.inl dp_)], [], n, D, s, p, c) _
      refine tt_k 1 (S' := (15, [some (.inr (.inl 0)), some (.inl wi), some (.inl hi_), some (.inl pl_), some (.inl dp_)], [.inl pl_], n, D, s, p, c)) rfl ?_
      refine tt_cl (by omega) rfl (g_isPC (Zi := Zi) (q := q) (n := n) (D := D) (s := s) (p := p) (c := c) (by omega) hz (by omega) hD hS hC hW pl_ (by omega)) ?_
      rintro _ _ ⟨r11, rfl, rfl, b12, k13⟩
      show tt Zi d 93 (18, [some (.inr (.inl 0)), some (.inl wi), some (.inl hi_), some (.inl pl_), some (.inl dp_)], [.inl r11], n, D, s, p, c) _
      replace k13 : r11 = 1 ↔ (pl_ = 1 ∨ pl_ = 3) := k13
      refine tz_eq (x := r11) rfl rfl (by omega) (fun h14 => ?_) (fun h14 => ?_)
      · show tt Zi d 93 (29, [some (.inr (.inl 0)), some (.inl wi), some (.inl hi_), some (.inl pl_), some (.inl dp_)], [], n, D, s, p, c) _
        have hn15 := wp_n hW (by omega)
        exact tt_thr (q := (11, 923)) rfl rfl (by decide) (by decide) (by omega) (by omega) (Or.inr ⟨rfl, cXp_mono (q := q + 1) ⟨⟨hS, bC_x hC (hW).dz (by decide), wp_x hW, fk_x (fk_rf hD), (show fr s s [800, 801, 802, 803, 804, 805, 806, 807, 808, 809] from fr_rf)⟩, ((frp_rf : frp p p [104, 400, 600, 900, 901, 1203, 1204, 1205, 2103, 2104, 2105, 2504, 2704]) 8 (by decide))⟩ (by omega), by omega⟩)
      · show tt Zi d 93 (21, [some (.inr (.inl 0)), some (.inl wi), some (.inl hi_), some (.inl pl_), some (.inl dp_)], [], n, D, s, p, c) _
        refine tt_k 1 (S' := (23, [some (.inr (.inl 0)), some (.inl wi), some (.inl hi_), some (.inl pl_), some (.inl dp_)], [.inl dp_], n, D, s, p, c)) rfl ?_
        refine tt_cl (by omega) rfl (g_isDepth (Zi := Zi) (q := q) (n := n) (D := D) (s := s) (p := p) (c := c) (by omega) hz (by omega) hD hS hC hW dp_ (by omega)) ?_
        rintro _ _ ⟨r16, rfl, rfl, b17, k18⟩
        show tt Zi d 93 (26, [some (.inr (.inl 0)), some (.inl wi), some (.inl hi_), some (.inl pl_), some (.inl dp_)], [.inl r16], n, D, s, p, c) _
        replace k18 : r16 = 1 ↔ (2 ≤ dp_ ∧ dp_ ≤ 16) := k18
        refine tz_ne (x := r16) rfl rfl (by omega) (fun h19 => ?_) (fun h19 => ?_)
        · show tt Zi d 93 (37, [some (.inr (.inl 0)), some (.inl wi), some (.inl hi_), some (.inl pl_), some (.inl dp_)], [], n, D, s, p, c) _
          refine tt_k 6 (S' := (46, [some (.inr (.inl 0)), some (.inl wi), some (.inl hi_), some (.inl pl_), some (.inl dp_)], [.inl dp_, .inl pl_, .inl hi_, .inl wi, .inr (.inl 1)], n, D, s, p, c)) rfl ?_
          refine tt_cl (by omega) rfl (g_reshape1 (Zi := Zi) (q := q) (n := n) (D := D) (s := s) (p := p) (c := c) (by omega) hz (by omega) hD hS hC hW wi hi_ pl_ dp_ (by omega) (by omega) (by omega) (by omega)) ?_
          rintro _ _ ⟨n20, D21, s22, p23, c24, rfl, rfl, hS22, hC24, hW25, f26, g27, xe28, kf29, k30, k31, k32, k33, k34⟩
          have FK35 : fk p c n20 p23 c24 [3, 104] := fk_tr (fk_rf hD) kf29 (by decide)
          show tt Zi d 93 (49, [some (.inr (.inl 0)), some (.inl wi), some (.inl hi_), some (.inl pl_), some (.inl dp_)], [], n20, D21, s22, p23, c24) _
          replace k30 : (s22 100) = wi := k30
          replace k31 : (s22 101) = hi_ := k31
          replace k32 : (s22 102) = pl_ := k32
          replace k33 : (s22 103) = dp_ := k33
          have b36 : 1 ≤ (s22 100) ∧ (s22 100) ≤ 64 := hS22 100
          have b37 : 1 ≤ (s22 101) ∧ (s22 101) ≤ 64 := hS22 101
          have b38 : 1 ≤ (s22 102) ∧ (s22 102) ≤ 3 := hS22 102
          have b39 : 2 ≤ (s22 103) ∧ (s22 103) ≤ 16 := hS22 103
          refine tt_k 3 (S' := (54, [some (.inr (.inl 0)), some (.inl wi), some (.inl hi_), some (.inl pl_), some (.inl dp_)], [.inl 0, .inr (.inl 3)], n20, D21, s22, p23, c24)) rfl ?_
          refine tt_cl (by omega) rfl (g_fill (A := 3) (m := 5) (s := s22) (p := p23) rfl (by omega) (by rw [(show bC_lo D21 3 = 0 ∧ bC_hi D21 3 = 65535 from ⟨rfl, rfl⟩).1, (show bC_lo D21 3 = 0 ∧ bC_hi D21 3 = 65535 from ⟨rfl, rfl⟩).2]; decide) hC24) ?_
          rintro _ _ ⟨c40, rfl, rfl, hC40, fc40, ec40, zc40⟩
          show tt Zi d 93 (57, [some (.inr (.inl 0)), some (.inl wi), some (.inl hi_), some (.inl pl_), some (.inl dp_)], [], n20, D21, s22, p23, c40) _
          have FK41 : fk p c n20 p23 c40 [3, 104] := fk_st (k := 3) FK35 ec40 (by decide) rfl
          exact tt_rtv rfl rfl (Or.inl ⟨rfl, ⟨cX_mono (q := q) (show cX q (us (us (us (us g 100 wi) 101 hi_) 102 pl_) 103 dp_) s p c [3, 104] [100, 101, 102, 103] (n20, D21, s22, p23, c40) from ⟨hS22, hC40, hW25, FK41, (show fr s s22 [100, 101, 102, 103] from (fr_tr fr_rf f26 (by decide)))⟩) (by omega), (((frp_tr frp_rf g27 (by decide)) : frp p p23 [104, 400, 600, 900, 901, 1203, 1204, 1205, 2103, 2104, 2105, 2504, 2704]) 8 (by decide))⟩, by omega, by intro i hi; show c40 (p23 104) i = 0; rw [ec40, uc_ne (show (p23 104) ≠ 3 from FK41.1.2 104 (by decide) 3 (by decide) (by decide))]; exact k34 i hi, by intro i hi; show c40 3 i = 0; rw [ec40, uc_eq]; exact zc40 i (by omega)⟩)
        · show tt Zi d 93 (29, [some (.inr (.inl 0)), some (.inl wi), some (.inl hi_), some (.inl pl_), some (.inl dp_)], [], n, D, s, p, c) _
          have hn42 := wp_n hW (by omega)
          exact tt_thr (q := (11, 923)) rfl rfl (by decide) (by decide) (by omega) (by omega) (Or.inr ⟨rfl, cXp_mono (q := q + 1) ⟨⟨hS, bC_x hC (hW).dz (by decide), wp_x hW, fk_x (fk_rf hD), (show fr s s [800, 801, 802, 803, 804, 805, 806, 807, 808, 809] from fr_rf)⟩, ((frp_rf : frp p p [104, 400, 600, 900, 901, 1203, 1204, 1205, 2103, 2104, 2105, 2504, 2704]) 8 (by decide))⟩ (by omega), by omega⟩)
set_option maxRecDepth 100000 in
set_option maxHeartbeats 4000000 in
theorem e_measures {g : Nat → Int} {Zi : Nat → Option (Nat × (Nat → Int))} {d n q : Nat} {D : Nat → Nat × Nat} {s : Nat → Int} {p : Nat → Nat} {c : Nat → Nat → Int} (hd : 3 ≤ d) (hz : zk Zi) (hq : q + 6 ≤ 400000) (hD : wd n p) (hS : bS s) (hC : bC D c) (hW : wp q g n D p s) (a1 : Int) (a2 : Int) (a3 : Int) (a4 : Int) (a5 : Int) (b_a1 : -2147483648 ≤ a1 ∧ a1 ≤ 2147483647) (b_a2 : -2147483648 ≤ a2 ∧ a2 ≤ 2147483647) (b_a3 : -2147483648 ≤ a3 ∧ a3 ≤ 2147483647) (b_a4 : -2147483648 ≤ a4 ∧ a4 ≤ 2147483647) (b_a5 : -2147483648 ≤ a5 ∧ a5 ≤ 2147483647) : tt Zi d 103 (0, [some (.inr (.inl 0)), some (.inl a1), some (.inl a2), some (.inl a3), some (.inl a4), some (.inl a5)], [], n, D, s, p, c) (fun R H => (R = .inl none ∧ cXp (q + 1) g s p c [3] [] H ∧ ((0 ≤ a1 ∧ a1 ≤ 65535) ∧ (0 ≤ a2 ∧ a2 ≤ 65535) ∧ (0 ≤ a3 ∧ a3 ≤ 65535) ∧ (0 ≤ a4 ∧ a4 ≤ 65535) ∧ (0 ≤ a5 ∧ a5 ≤ 65535) ∧ a1 ≤ mi_shl 1 (s 103) - 1) ∧ (H.2.2.2.2 3 0 = a1 ∧ H.2.2.2.2 3 1 = a2 ∧ H.2.2.2.2 3 2 = a3 ∧ H.2.2.2.2 3 3 = a4 ∧ H.2.2.2.2 3 4 = a5)) ∨ (R = .inr 11 ∧ cXp (q + 1) g s p c [] [800, 801, 802, 803, 804, 805, 806, 807, 808, 809] H ∧ ¬ ((0 ≤ a1 ∧ a1 ≤ 65535) ∧ (0 ≤ a2 ∧ a2 ≤ 65535) ∧ (0 ≤ a3 ∧ a3 ≤ 65535) ∧ (0 ≤ a4 ∧ a4 ≤ 65535) ∧ (0 ≤ a5 ∧ a5 ≤ 65535) ∧ a1 ≤ mi_shl 1 (s 103) - 1))) := by
  refine tt_k 1 (S' := (1, [some (.inr (.inl 0)), some (.inl a1), some (.inl a2), some (.inl a3), some (.inl a4), some (.inl a5)], [.inl a1], n, D, s, p, c)) rfl ?_
  refine tt_cl (by omega) rfl (g_isNumber (Zi := Zi) (q := q) (n := n) (D := D) (s := s) (p := p) (c := c) (by omega) hz (by omega) hD hS hC hW a1 (by omega)) ?_
  rintro _ _ ⟨r1, rfl, rfl, b2, k3⟩
  show tt Zi d 103 (4, [some (.inr (.inl 0)), some (.inl a1), some (.inl a2), some (.inl a3), some (.inl a4), some (.inl a5)], [.inl r1], n, D, s, p, c) _
  replace k3 : r1 = 1 ↔ (0 ≤ a1 ∧ a1 ≤ 65535) := k3
  refine tz_eq (x := r1) rfl rfl (by omega) (fun h4 => ?_) (fun h4 => ?_)
  · show tt Zi d 103 (48, [some (.inr (.inl 0)), some (.inl a1), some (.inl a2), some (.inl a3), some (.inl a4), some (.inl a5)], [], n, D, s, p, c) _
    have hn5 := wp_n hW (by omega)
    exact tt_thr (q := (11, 923)) rfl rfl (by decide) (by decide) (by omega) (by omega) (Or.inr ⟨rfl, cXp_mono (q := q + 1) ⟨⟨hS, bC_x hC (hW).dz (by decide), wp_x hW, fk_x (fk_rf hD), (show fr s s [800, 801, 802, 803, 804, 805, 806, 807, 808, 809] from fr_rf)⟩, ((frp_rf : frp p p [104, 400, 600, 900, 901, 1203, 1204, 1205, 2103, 2104, 2105, 2504, 2704]) 8 (by decide))⟩ (by omega), by omega⟩)
  · show tt Zi d 103 (7, [some (.inr (.inl 0)), some (.inl a1), some (.inl a2), some (.inl a3), some (.inl a4), some (.inl a5)], [], n, D, s, p, c) _
    refine tt_k 1 (S' := (8, [some (.inr (.inl 0)), some (.inl a1), some (.inl a2), some (.inl a3), some (.inl a4), some (.inl a5)], [.inl a2], n, D, s, p, c)) rfl ?_
    refine tt_cl (by omega) rfl (g_isNumber (Zi := Zi) (q := q) (n := n) (D := D) (s := s) (p := p) (c := c) (by omega) hz (by omega) hD hS hC hW a2 (by omega)) ?_
    rintro _ _ ⟨r6, rfl, rfl, b7, k8⟩
    show tt Zi d 103 (11, [some (.inr (.inl 0)), some (.inl a1), some (.inl a2), some (.inl a3), some (.inl a4), some (.inl a5)], [.inl r6], n, D, s, p, c) _
    replace k8 : r6 = 1 ↔ (0 ≤ a2 ∧ a2 ≤ 65535) := k8
    refine tz_eq (x := r6) rfl rfl (by omega) (fun h9 => ?_) (fun h9 => ?_)
    · show tt Zi d 103 (48, [some (.inr (.inl 0)), some (.inl a1), some (.inl a2), some (.inl a3), some (.inl a4), some (.inl a5)], [], n, D, s, p, c) _
      have hn10 := wp_n hW (by omega)
      exact tt_thr (q := (11, 923)) rfl rfl (by decide) (by decide) (by omega) (by omega) (Or.inr ⟨rfl, cXp_mono (q := q + 1) ⟨⟨hS, bC_x hC (hW).dz (by decide), wp_x hW, fk_x (fk_rf hD), (show fr s s [800, 801, 802, 803, 804, 805, 806, 807, 808, 809] from fr_rf)⟩, ((frp_rf : frp p p [104, 400, 600, 900, 901, 1203, 1204, 1205, 2103, 2104, 2105, 2504, 2704]) 8 (by decide))⟩ (by omega), by omega⟩)
    · show tt Zi d 103 (14, [some (.inr (.inl 0)), some (.inl a1), some (.inl a2), some (.inl a3), some (.inl a4), some (.inl a5)], [], n, D, s, p, c) _
      refine tt_k 1 (S' := (15, [some (.inr (.inl 0)), some (.inl a1), some (.inl a2), some (.inl a3), some (.inl a4), some (.inl a5)], [.inl a3], n, D, s, p, c)) rfl ?_
      refine tt_cl (by omega) rfl (g_isNumber (Zi := Zi) (q := q) (n := n) (D := D) (s := s) (p := p) (c := c) (by omega) hz (by omega) hD hS hC hW a3 (by omega)) ?_
      rintro _ _ ⟨r11, rfl, rfl, b12, k13⟩
      show tt Zi d 103 (18, [some (.inr (.inl 0)), some (.inl a1), some (.inl a2), some (.inl a3), some (.inl a4), some (.inl a5)], [.inl r11], n, D, s, p, c) _
      replace k13 : r11 = 1 ↔ (0 ≤ a3 ∧ a3 ≤ 65535) := k13
      refine tz_eq (x := r11) rfl rfl (by omega) (fun h14 => ?_) (fun h14 => ?_)
      · show tt Zi d 103 (48, [some (.inr (.inl 0)), some (.inl a1), some (.inl a2), some (.inl a3), some (.inl a4), some (.inl a5)], [], n, D, s, p, c) _
        have hn15 := wp_n hW (by omega)
        exact tt_thr (q := (11, 923)) rfl rfl (by decide) (by decide) (by omega) (by omega) (Or.inr ⟨rfl, cXp_mono (q := q + 1) ⟨⟨hS, bC_x hC (hW).dz (by decide), wp_x hW, fk_x (fk_rf hD), (show fr s s [800, 801, 802, 803, 804, 805, 806, 807, 808, 809] from fr_rf)⟩, ((frp_rf : frp p p [104, 400, 600, 900, 901, 1203, 1204, 1205, 2103, 2104, 2105, 2504, 2704]) 8 (by decide))⟩ (by omega), by omega⟩)
      · show tt Zi d 103 (21, [some (.inr (.inl 0)), some (.inl a1), some (.inl a2), some (.inl a3), some (.inl a4), some (.inl a5)], [], n, D, s, p, c) _
        refine tt_k 1 (S' := (23, [some (.inr (.inl 0)), some (.inl a1), some (.inl a2), some (.inl a3), some (.inl a4), some (.inl a5)], [.inl a4], n, D, s, p, c)) rfl ?_
        refine tt_cl (by omega) rfl (g_isNumber (Zi := Zi) (q := q) (n := n) (D := D) (s := s) (p := p) (c := c) (by omega) hz (by omega) hD hS hC hW a4 (by omega)) ?_
        rintro _ _ ⟨r16, rfl, rfl, b17, k18⟩
        show tt Zi d 103 (26, [some (.inr (.inl 0)), some (.inl a1), some (.inl a2), some (.inl a3), some (.inl a4), some (.inl a5)], [.inl r16], n, D, s, p, c) _
        replace k18 : r16 = 1 ↔ (0 ≤ a4 ∧ a4 ≤ 65535) := k18
        refine tz_eq (x := r16) rfl rfl (by omega) (fun h19 => ?_) (fun h19 => ?_)
        · show tt Zi d 103 (48, [some (.inr (.inl 0)), some (.inl a1), some (.inl a2), some (.inl a3), some (.inl a4), some (.inl a5)], [], n, D, s, p, c) _
          have hn20 := wp_n hW (by omega)
          exact tt_thr (q := (11, 923)) rfl rfl (by decide) (by decide) (by omega) (by omega) (Or.inr ⟨rfl, cXp_mono (q := q + 1) ⟨⟨hS, bC_x hC (hW).dz (by decide), wp_x hW, fk_x (fk_rf hD), (show fr s s [800, 801, 802, 803, 804, 805, 806, 807, 808, 809] from fr_rf)⟩, ((frp_rf : frp p p [104, 400, 600, 900, 901, 1203, 1204, 1205, 2103, 2104, 2105, 2504, 2704]) 8 (by decide))⟩ (by omega), by omega⟩)
        · show tt Zi d 103 (29, [some (.inr (.inl 0)), some (.inl a1), some (.inl a2), some (.inl a3), some (.inl a4), some (.inl a5)], [], n, D, s, p, c) _
          refine tt_k 1 (S' := (31, [some (.inr (.inl 0)), some (.inl a1), some (.inl a2), some (.inl a3), some (.inl a4), some (.inl a5)], [.inl a5], n, D, s, p, c)) rfl ?_
          refine tt_cl (by omega) rfl (g_isNumber (Zi := Zi) (q := q) (n := n) (D := D) (s := s) (p := p) (c := c) (by omega) hz (by omega) hD hS hC hW a5 (by omega)) ?_
          rintro _ _ ⟨r21, rfl, rfl, b22, k23⟩
          show tt Zi d 103 (34, [some (.inr (.inl 0)), some (.inl a1), some (.inl a2), some (.inl a3), some (.inl a4), some (.inl a5)], [.inl r21], n, D, s, p, c) _
          replace k23 : r21 = 1 ↔ (0 ≤ a5 ∧ a5 ≤ 65535) := k23
          refine tz_eq (x := r21) rfl rfl (by omega) (fun h24 => ?_) (fun h24 => ?_)
          · show tt Zi d 103 (48, [some (.inr (.inl 0)), some (.inl a1), some (.inl a2), some (.inl a3), some (.inl a4), some (.inl a5)], [], n, D, s, p, c) _
            have hn25 := wp_n hW (by omega)
            exact tt_thr (q := (11, 923)) rfl rfl (by decide) (by decide) (by omega) (by omega) (Or.inr ⟨rfl, cXp_mono (q := q + 1) ⟨⟨hS, bC_x hC (hW).dz (by decide), wp_x hW, fk_x (fk_rf hD), (show fr s s [800, 801, 802, 803, 804, 805, 806, 807, 808, 809] from fr_rf)⟩, ((frp_rf : frp p p [104, 400, 600, 900, 901, 1203, 1204, 1205, 2103, 2104, 2105, 2504, 2704]) 8 (by decide))⟩ (by omega), by omega⟩)
          · show tt Zi d 103 (37, [some (.inr (.inl 0)), some (.inl a1), some (.inl a2), some (.inl a3), some (.inl a4), some (.inl a5)], [], n, D, s, p, c) _
            refine tt_k 3 (S' := (42, [some (.inr (.inl 0)), some (.inl a1), some (.inl a2), some (.inl a3), some (.inl a4), some (.inl a5)], [.inr (.inl 1), .inl a1], n, D, s, p, c)) rfl ?_
            refine tt_cl (by omega) rfl (g_greatest1 (Zi := Zi) (q := q) (n := n) (D := D) (s := s) (p := p) (c := c) (by omega) hz (by omega) hD hS hC hW ) ?_
            rintro _ _ ⟨r26, rfl, rfl, b27, k28⟩
            show tt Zi d 103 (45, [some (.inr (.inl 0)), some (.inl a1), some (.inl a2), some (.inl a3), some (.inl a4), some (.inl a5)], [.inl r26, .inl a1], n, D, s, p, c) _
            replace k28 : r26 = mi_shl 1 ((s 103)) - 1 := k28
            have b29 : 2 ≤ (s 103) ∧ (s 103) ≤ 16 := hS 103
            refine tb_le (x := a1) (y := r26) rfl rfl (by omega) (fun h30 => ?_) (fun h30 => ?_)
            · show tt Zi d 103 (56, [some (.inr (.inl 0)), some (.inl a1), some (.inl a2), some (.inl a3), some (.inl a4), some (.inl a5)], [], n, D, s, p, c) _
              refine tt_k 4 (S' := (62, [some (.inr (.inl 0)), some (.inl a1), some (.inl a2), some (.inl a3), some (.inl a4), some (.inl a5)], [.inl a1, .inl 0, .inr (.inl 3)], n, D, s, p, c)) rfl ?_
              refine tt_isb (i := 0) (m := 5) (lo := 0) (hi := 65535) (x := a1) rfl rfl (by omega) hC ⟨rfl, rfl⟩ (by omega) ?_
              intro c31 hC31 ec31
              show tt Zi d 103 (63, [some (.inr (.inl 0)), some (.inl a1), some (.inl a2), some (.inl a3), some (.inl a4), some (.inl a5)], [], n, D, s, p, c31) _
              have FK32 : fk p c n p c31 [3] := fk_st (k := 3) (fk_rf hD) ec31 (by decide) rfl
              refine tt_k 4 (S' := (69, [some (.inr (.inl 0)), some (.inl a1), some (.inl a2), some (.inl a3), some (.inl a4), some (.inl a5)], [.inl a2, .inl 1, .inr (.inl 3)], n, D, s, p, c31)) rfl ?_
              refine tt_isb (i := 1) (m := 5) (lo := 0) (hi := 65535) (x := a2) rfl rfl (by omega) hC31 ⟨rfl, rfl⟩ (by omega) ?_
              intro c33 hC33 ec33
              show tt Zi d 103 (70, [some (.inr (.inl 0)), some (.inl a1), some (.inl a2), some (.inl a3), some (.inl a4), some (.inl a5)], [], n, D, s, p, c33) _
              have FK34 : fk p c n p c33 [3] := fk_st (k := 3) FK32 ec33 (by decide) rfl
              refine tt_k 4 (S' := (76, [some (.inr (.inl 0)), some (.inl a1), some (.inl a2), some (.inl a3), some (.inl a4), some (.inl a5)], [.inl a3, .inl 2, .inr (.inl 3)], n, D, s, p, c33)) rfl ?_
              refine tt_isb (i := 2) (m := 5) (lo := 0) (hi := 65535) (x := a3) rfl rfl (by omega) hC33 ⟨rfl, rfl⟩ (by omega) ?_
              intro c35 hC35 ec35
              show tt Zi d 103 (77, [some (.inr (.inl 0)), some (.inl a1), some (.inl a2), some (.inl a3), some (.inl a4), some (.inl a5)], [], n, D, s, p, c35) _
              have FK36 : fk p c n p c35 [3] := fk_st (k := 3) FK34 ec35 (by decide) rfl
              refine tt_k 4 (S' := (84, [some (.inr (.inl 0)), some (.inl a1), some (.inl a2), some (.inl a3), some (.inl a4), some (.inl a5)], [.inl a4, .inl 3, .inr (.inl 3)], n, D, s, p, c35)) rfl ?_
              refine tt_isb (i := 3) (m := 5) (lo := 0) (hi := 65535) (x := a4) rfl rfl (by omega) hC35 ⟨rfl, rfl⟩ (by omega) ?_
              intro c37 hC37 ec37
              show tt Zi d 103 (85, [some (.inr (.inl 0)), some (.inl a1), some (.inl a2), some (.inl a3), some (.inl a4), some (.inl a5)], [], n, D, s, p, c37) _
              have FK38 : fk p c n p c37 [3] := fk_st (k := 3) FK36 ec37 (by decide) rfl
              refine tt_k 4 (S' := (92, [some (.inr (.inl 0)), some (.inl a1), some (.inl a2), some (.inl a3), some (.inl a4), some (.inl a5)], [.inl a5, .inl 4, .inr (.inl 3)], n, D, s, p, c37)) rfl ?_
              refine tt_isb (i := 4) (m := 5) (lo := 0) (hi := 65535) (x := a5) rfl rfl (by omega) hC37 ⟨rfl, rfl⟩ (by omega) ?_
              intro c39 hC39 ec39
              show tt Zi d 103 (93, [some (.inr (.inl 0)), some (.inl a1), some (.inl a2), some (.inl a3), some (.inl a4), some (.inl a5)], [], n, D, s, p, c39) _
              have FK40 : fk p c n p c39 [3] := fk_st (k := 3) FK38 ec39 (by decide) rfl
              exact tt_rtv rfl rfl (Or.inl ⟨rfl, ⟨cX_mono (q := q) (show cX q g s p c [3] [] (n, D, s, p, c39) from ⟨hS, hC39, hW, FK40, (show fr s s [] from fr_rf)⟩) (by omega), ((frp_rf : frp p p [104, 400, 600, 900, 901, 1203, 1204, 1205, 2103, 2104, 2105, 2504, 2704]) 8 (by decide))⟩, by omega, by show c39 3 0 = a1 ∧ c39 3 1 = a2 ∧ c39 3 2 = a3 ∧ c39 3 3 = a4 ∧ c39 3 4 = a5; rw [ec39, ec37, ec35, ec33, ec31]; exact ⟨rfl, rfl, rfl, rfl, rfl⟩⟩)
            · show tt Zi d 103 (48, [some (.inr (.inl 0)), some (.inl a1), some (.inl a2), some (.inl a3), some (.inl a4), some (.inl a5)], [], n, D, s, p, c) _
              have hn41 := wp_n hW (by omega)
              exact tt_thr (q := (11, 923)) rfl rfl (by decide) (by decide) (by omega) (by omega) (Or.inr ⟨rfl, cXp_mono (q := q + 1) ⟨⟨hS, bC_x hC (hW).dz (by decide), wp_x hW, fk_x (fk_rf hD), (show fr s s [800, 801, 802, 803, 804, 805, 806, 807, 808, 809] from fr_rf)⟩, ((frp_rf : frp p p [104, 400, 600, 900, 901, 1203, 1204, 1205, 2103, 2104, 2105, 2504, 2704]) 8 (by decide))⟩ (by omega), by omega⟩)
set_option maxRecDepth 100000 in
set_option maxHeartbeats 4000000 in
theorem e_size {g : Nat → Int} {Zi : Nat → Option (Nat × (Nat → Int))} {d n q : Nat} {D : Nat → Nat × Nat} {s : Nat → Int} {p : Nat → Nat} {c : Nat → Nat → Int} (hd : 0 ≤ d) (hz : zk Zi) (hq : q + 0 ≤ 400000) (hD : wd n p) (hS : bS s) (hC : bC D c) (hW : wp q g n D p s)  : tt Zi d 14 (0, [some (.inr (.inl 0))], [], n, D, s, p, c) (fun R H => (∃ r : Int, R = .inl (some (.inl r)) ∧ (0 ≤ r ∧ r ≤ 262144) ∧ cXp (q + 1) g s p c [] [] H ∧ (r = s 401))) := by
  refine tt_k 3 (S' := (7, [some (.inr (.inl 0))], [.inl (s 401)], n, D, s, p, c)) rfl ?_
  have b1 : 0 ≤ (s 401) ∧ (s 401) ≤ 262144 := hS 401
  exact tt_rti rfl rfl ⟨(s 401), rfl, by omega, ⟨cX_mono (q := q) (show cX q g s p c [] [] (n, D, s, p, c) from ⟨hS, hC, hW, (fk_rf hD), (show fr s s [] from fr_rf)⟩) (by omega), ((frp_rf : frp p p [104, 400, 600, 900, 901, 1203, 1204, 1205, 2103, 2104, 2105, 2504, 2704]) 8 (by decide))⟩, by rfl⟩
set_option maxRecDepth 100000 in
set_option maxHeartbeats 4000000 in
theorem e_out {g : Nat → Int} {Zi : Nat → Option (Nat × (Nat → Int))} {d n q : Nat} {D : Nat → Nat × Nat} {s : Nat → Int} {p : Nat → Nat} {c : Nat → Nat → Int} (hd : 3 ≤ d) (hz : zk Zi) (hq : q + 6 ≤ 400000) (hD : wd n p) (hS : bS s) (hC : bC D c) (hW : wp q g n D p s) (i : Int) (b_i : -2147483648 ≤ i ∧ i ≤ 2147483647) : tt Zi d 116 (0, [some (.inr (.inl 0)), some (.inl i)], [], n, D, s, p, c) (fun R H => (∃ r : Int, R = .inl (some (.inl r)) ∧ (0 ≤ r ∧ r ≤ 255) ∧ cXp (q + 1) g s p c [] [] H ∧ (0 ≤ i ∧ i < s 401) ∧ (r = mi_and (c (p 400) i.toNat) 255)) ∨ (R = .inr 13 ∧ cXp (q + 1) g s p c [] [800, 801, 802, 803, 804, 805, 806, 807, 808, 809] H ∧ ¬ (0 ≤ i ∧ i < s 401))) := by
  have b1 := wp_l4 hW
  have hc4 := hW.c4
  refine tt_k 1 (S' := (1, [some (.inr (.inl 0)), some (.inl i)], [.inl i], n, D, s, p, c)) rfl ?_
  refine tz_lt (x := i) rfl rfl (by omega) (fun h2 => ?_) (fun h2 => ?_)
  · show tt Zi d 116 (15, [some (.inr (.inl 0)), some (.inl i)], [], n, D, s, p, c) _
    have hn3 := wp_n hW (by omega)
    exact tt_thr (q := (13, 955)) rfl rfl (by decide) (by decide) (by omega) (by omega) (Or.inr ⟨rfl, cXp_mono (q := q + 1) ⟨⟨hS, bC_x hC (hW).dz (by decide), wp_x hW, fk_x (fk_rf hD), (show fr s s [800, 801, 802, 803, 804, 805, 806, 807, 808, 809] from fr_rf)⟩, ((frp_rf : frp p p [104, 400, 600, 900, 901, 1203, 1204, 1205, 2103, 2104, 2105, 2504, 2704]) 8 (by decide))⟩ (by omega), by omega⟩)
  · show tt Zi d 116 (4, [some (.inr (.inl 0)), some (.inl i)], [], n, D, s, p, c) _
    refine tt_k 4 (S' := (12, [some (.inr (.inl 0)), some (.inl i)], [.inl (s 401), .inl i], n, D, s, p, c)) rfl ?_
    have b4 : 0 ≤ (s 401) ∧ (s 401) ≤ 262144 := hS 401
    refine tb_lt (x := i) (y := (s 401)) rfl rfl (by omega) (fun h5 => ?_) (fun h5 => ?_)
    · show tt Zi d 116 (23, [some (.inr (.inl 0)), some (.inl i)], [], n, D, s, p, c) _
      refine tt_k 3 (S' := (28, [some (.inr (.inl 0)), some (.inl i)], [.inl i, .inr (.inl 4)], n, D, s, p, c)) rfl ?_
      refine tt_cl (by omega) rfl (e_get4 (Zi := Zi) (q := q) (n := n) (D := D) (s := s) (p := p) (c := c) (by omega) hz (by omega) hD hS hC hW i (by omega) (show 0 ≤ i ∧ i < (ln D (p 400) : Int) by omega)) ?_
      rintro _ _ ⟨r6, rfl, rfl, b7, k8⟩
      show tt Zi d 116 (31, [some (.inr (.inl 0)), some (.inl i)], [.inl r6], n, D, s, p, c) _
      exact tt_rti rfl rfl (Or.inl ⟨r6, rfl, by omega, ⟨cX_mono (q := q) (show cX q g s p c [] [] (n, D, s, p, c) from ⟨hS, hC, hW, (fk_rf hD), (show fr s s [] from fr_rf)⟩) (by omega), ((frp_rf : frp p p [104, 400, 600, 900, 901, 1203, 1204, 1205, 2103, 2104, 2105, 2504, 2704]) 8 (by decide))⟩, by omega, by exact k8⟩)
    · show tt Zi d 116 (15, [some (.inr (.inl 0)), some (.inl i)], [], n, D, s, p, c) _
      have hn9 := wp_n hW (by omega)
      exact tt_thr (q := (13, 955)) rfl rfl (by decide) (by decide) (by omega) (by omega) (Or.inr ⟨rfl, cXp_mono (q := q + 1) ⟨⟨hS, bC_x hC (hW).dz (by decide), wp_x hW, fk_x (fk_rf hD), (show fr s s [800, 801, 802, 803, 804, 805, 806, 807, 808, 809] from fr_rf)⟩, ((frp_rf : frp p p [104, 400, 600, 900, 901, 1203, 1204, 1205, 2103, 2104, 2105, 2504, 2704]) 8 (by decide))⟩ (by omega), by omega⟩)
set_option maxRecDepth 100000 in
set_option maxHeartbeats 4000000 in
theorem e_end {g : Nat → Int} {Zi : Nat → Option (Nat × (Nat → Int))} {d n q : Nat} {D : Nat → Nat × Nat} {s : Nat → Int} {p : Nat → Nat} {c : Nat → Nat → Int} (hd : 3 ≤ d) (hz : zk Zi) (hq : q + 6 ≤ 400000) (hD : wd n p) (hS : bS s) (hC : bC D c) (hW : wp q g n D p s) (i : Int) (b_i : -2147483648 ≤ i ∧ i ≤ 2147483647) : tt Zi d 121 (0, [some (.inr (.inl 0)), some (.inl i)], [], n, D, s, p, c) (fun R H => (R = .inl none ∧ cXp (q + 1) g s p c [] [601] H ∧ (0 ≤ i ∧ i ≤ s 601) ∧ (H.2.2.1 601 = i)) ∨ (R = .inr 11 ∧ cXp (q + 1) g s p c [] [800, 801, 802, 803, 804, 805, 806, 807, 808, 809] H ∧ ¬ (0 ≤ i ∧ i ≤ s 601))) := by
  have b1 := wp_l6 hW
  have hc6 := hW.c6
  have b2 : 0 ≤ (s 601) ∧ (s 601) ≤ 32768 := hS 601
  refine tt_k 1 (S' := (1, [some (.inr (.inl 0)), some (.inl i)], [.inl i], n, D, s, p, c)) rfl ?_
  refine tz_lt (x := i) rfl rfl (by omega) (fun h3 => ?_) (fun h3 => ?_)
  · show tt Zi d 121 (15, [some (.inr (.inl 0)), some (.inl i)], [], n, D, s, p, c) _
    have hn4 := wp_n hW (by omega)
    exact tt_thr (q := (11, 923)) rfl rfl (by decide) (by decide) (by omega) (by omega) (Or.inr ⟨rfl, cXp_mono (q := q + 1) ⟨⟨hS, bC_x hC (hW).dz (by decide), wp_x hW, fk_x (fk_rf hD), (show fr s s [800, 801, 802, 803, 804, 805, 806, 807, 808, 809] from fr_rf)⟩, ((frp_rf : frp p p [104, 400, 600, 900, 901, 1203, 1204, 1205, 2103, 2104, 2105, 2504, 2704]) 8 (by decide))⟩ (by omega), by omega⟩)
  · show tt Zi d 121 (4, [some (.inr (.inl 0)), some (.inl i)], [], n, D, s, p, c) _
    refine tt_k 4 (S' := (12, [some (.inr (.inl 0)), some (.inl i)], [.inl (s 601), .inl i], n, D, s, p, c)) rfl ?_
    refine tb_le (x := i) (y := (s 601)) rfl rfl (by omega) (fun h5 => ?_) (fun h5 => ?_)
    · show tt Zi d 121 (23, [some (.inr (.inl 0)), some (.inl i)], [], n, D, s, p, c) _
      refine tt_k 4 (S' := (31, [some (.inr (.inl 0)), some (.inl i)], [], n, D, (us s 601 i), p, c)) rfl ?_
      exact tt_rtv rfl rfl (Or.inl ⟨rfl, ⟨cX_mono (q := q) (show cX q g s p c [] [601] (n, D, (us s 601 i), p, c) from ⟨(bS_us hS (show 0 ≤ i ∧ i ≤ 32768 by omega)), hC, (wp_c6 hW (show i ≤ (ln D (p 600) : Int) by omega)), (fk_rf hD), (show fr s (us s 601 i) [601] from (fr_us (by decide) fr_rf))⟩) (by omega), ((frp_rf : frp p p [104, 400, 600, 900, 901, 1203, 1204, 1205, 2103, 2104, 2105, 2504, 2704]) 8 (by decide))⟩, by omega, by rfl⟩)
    · show tt Zi d 121 (15, [some (.inr (.inl 0)), some (.inl i)], [], n, D, s, p, c) _
      have hn6 := wp_n hW (by omega)
      exact tt_thr (q := (11, 923)) rfl rfl (by decide) (by decide) (by omega) (by omega) (Or.inr ⟨rfl, cXp_mono (q := q + 1) ⟨⟨hS, bC_x hC (hW).dz (by decide), wp_x hW, fk_x (fk_rf hD), (show fr s s [800, 801, 802, 803, 804, 805, 806, 807, 808, 809] from fr_rf)⟩, ((frp_rf : frp p p [104, 400, 600, 900, 901, 1203, 1204, 1205, 2103, 2104, 2105, 2504, 2704]) 8 (by decide))⟩ (by omega), by omega⟩)
