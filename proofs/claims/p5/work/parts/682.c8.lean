/-! the class's small calls -/
set_option maxRecDepth 100000 in
set_option maxHeartbeats 4000000 in
theorem g_canvas {g : Nat → Int} {Zi : Nat → Option (Nat × (Nat → Int))} {d n q : Nat} {D : Nat → Nat × Nat} {s : Nat → Int} {p : Nat → Nat} {c : Nat → Nat → Int} (hd : 3 ≤ d) (hz : zk Zi) (hq : q + 6 ≤ 400000) (hS : bS s) (hC : bC D c) (hW : wp q g n D p s) (wi : Int) (hi_ : Int) (pl_ : Int) (dp_ : Int) (b_wi : -2147483648 ≤ wi ∧ wi ≤ 2147483647) (b_hi_ : -2147483648 ≤ hi_ ∧ hi_ ≤ 2147483647) (b_pl_ : -2147483648 ≤ pl_ ∧ pl_ ≤ 2147483647) (b_dp_ : -2147483648 ≤ dp_ ∧ dp_ ≤ 2147483647) : tt Zi d 93 (0, [some (.inr (.inl 0)), some (.inl wi), some (.inl hi_), some (.inl pl_), some (.inl dp_)], [], n, D, s, p, c) (fun R H => (R = .inl none ∧ cW (q + 1) (us (us (us (us g 100 wi) 101 hi_) 102 pl_) 103 dp_) H ∧ ((1 ≤ wi ∧ wi ≤ 64) ∧ (1 ≤ hi_ ∧ hi_ ≤ 64) ∧ (pl_ = 1 ∨ pl_ = 3) ∧ (2 ≤ dp_ ∧ dp_ ≤ 16))) ∨ (R = .inr 11 ∧ cW (q + 1) g H ∧ ¬ ((1 ≤ wi ∧ wi ≤ 64) ∧ (1 ≤ hi_ ∧ hi_ ≤ 64) ∧ (pl_ = 1 ∨ pl_ = 3) ∧ (2 ≤ dp_ ∧ dp_ ≤ 16)))) := by
  refine tt_k 1 (S' := (1, [some (.inr (.inl 0)), some (.inl wi), some (.inl hi_), some (.inl pl_), some (.inl dp_)], [.inl wi], n, D, s, p, c)) rfl ?_
  refine tt_cl (by omega) rfl (g_isSide (Zi := Zi) (q := q) (n := n) (D := D) (s := s) (p := p) (c := c) (by omega) hz (by omega) hS hC hW wi (by omega)) ?_
  rintro _ _ ⟨r1, rfl, rfl, b2, k3⟩
  show tt Zi d 93 (4, [some (.inr (.inl 0)), some (.inl wi), some (.inl hi_), some (.inl pl_), some (.inl dp_)], [.inl r1], n, D, s, p, c) _
  replace k3 : r1 = 1 ↔ (1 ≤ wi ∧ wi ≤ 64) := k3
  refine tz_eq (x := r1) rfl rfl (by omega) (fun h4 => ?_) (fun h4 => ?_)
  · show tt Zi d 93 (29, [some (.inr (.inl 0)), some (.inl wi), some (.inl hi_), some (.inl pl_), some (.inl dp_)], [], n, D, s, p, c) _
    have hn5 := wp_n hW (by omega)
    exact tt_thr (q := (11, 923)) rfl rfl (by decide) (by decide) (by omega) (by omega) (Or.inr ⟨rfl, cW_mono (q := q + 1) ⟨hS, bC_x hC (hW).dz (by decide), wp_x hW⟩ (by omega), by omega⟩)
  · show tt Zi d 93 (7, [some (.inr (.inl 0)), some (.inl wi), some (.inl hi_), some (.inl pl_), some (.inl dp_)], [], n, D, s, p, c) _
    refine tt_k 1 (S' := (8, [some (.inr (.inl 0)), some (.inl wi), some (.inl hi_), some (.inl pl_), some (.inl dp_)], [.inl hi_], n, D, s, p, c)) rfl ?_
    refine tt_cl (by omega) rfl (g_isSide (Zi := Zi) (q := q) (n := n) (D := D) (s := s) (p := p) (c := c) (by omega) hz (by omega) hS hC hW hi_ (by omega)) ?_
    rintro _ _ ⟨r6, rfl, rfl, b7, k8⟩
    show tt Zi d 93 (11, [some (.inr (.inl 0)), some (.inl wi), some (.inl hi_), some (.inl pl_), some (.inl dp_)], [.inl r6], n, D, s, p, c) _
    replace k8 : r6 = 1 ↔ (1 ≤ hi_ ∧ hi_ ≤ 64) := k8
    refine tz_eq (x := r6) rfl rfl (by omega) (fun h9 => ?_) (fun h9 => ?_)
    · show tt Zi d 93 (29, [some (.inr (.inl 0)), some (.inl wi), some (.inl hi_), some (.inl pl_), some (.inl dp_)], [], n, D, s, p, c) _
      have hn10 := wp_n hW (by omega)
      exact tt_thr (q := (11, 923)) rfl rfl (by decide) (by decide) (by omega) (by omega) (Or.inr ⟨rfl, cW_mono (q := q + 1) ⟨hS, bC_x hC (hW).dz (by decide), wp_x hW⟩ (by omega), by omega⟩)
    · show tt Zi d 93 (14, [some (.inr (.inl 0)), some (.inl wi), some (.inl hi_), some (.inl pl_), some (.inl dp_)], [], n, D, s, p, c) _
      refine tt_k 1 (S' := (15, [some (.inr (.inl 0)), some (.inl wi), some (.inl hi_), some (.inl pl_), some (.inl dp_)], [.inl pl_], n, D, s, p, c)) rfl ?_
      refine tt_cl (by omega) rfl (g_isPC (Zi := Zi) (q := q) (n := n) (D := D) (s := s) (p := p) (c := c) (by omega) hz (by omega) hS hC hW pl_ (by omega)) ?_
      rintro _ _ ⟨r11, rfl, rfl, b12, k13⟩
      show tt Zi d 93 (18, [some (.inr (.inl 0)), some (.inl wi), some (.inl hi_), some (.inl pl_), some (.inl dp_)], [.inl r11], n, D, s, p, c) _
      replace k13 : r11 = 1 ↔ (pl_ = 1 ∨ pl_ = 3) := k13
      refine tz_eq (x := r11) rfl rfl (by omega) (fun h14 => ?_) (fun h14 => ?_)
      · show tt Zi d 93 (29, [some (.inr (.inl 0)), some (.inl wi), some (.inl hi_), some (.inl pl_), some (.inl dp_)], [], n, D, s, p, c) _
        have hn15 := wp_n hW (by omega)
        exact tt_thr (q := (11, 923)) rfl rfl (by decide) (by decide) (by omega) (by omega) (Or.inr ⟨rfl, cW_mono (q := q + 1) ⟨hS, bC_x hC (hW).dz (by decide), wp_x hW⟩ (by omega), by omega⟩)
      · show tt Zi d 93 (21, [some (.inr (.inl 0)), some (.inl wi), some (.inl hi_), some (.inl pl_), some (.inl dp_)], [], n, D, s, p, c) _
        refine tt_k 1 (S' := (23, [some (.inr (.inl 0)), some (.inl wi), some (.inl hi_), some (.inl pl_), some (.inl dp_)], [.inl dp_], n, D, s, p, c)) rfl ?_
        refine tt_cl (by omega) rfl (g_isDepth (Zi := Zi) (q := q) (n := n) (D := D) (s := s) (p := p) (c := c) (by omega) hz (by omega) hS hC hW dp_ (by omega)) ?_
        rintro _ _ ⟨r16, rfl, rfl, b17, k18⟩
        show tt Zi d 93 (26, [some (.inr (.inl 0)), some (.inl wi), some (.inl hi_), some (.inl pl_), some (.inl dp_)], [.inl r16], n, D, s, p, c) _
        replace k18 : r16 = 1 ↔ (2 ≤ dp_ ∧ dp_ ≤ 16) := k18
        refine tz_ne (x := r16) rfl rfl (by omega) (fun h19 => ?_) (fun h19 => ?_)
        · show tt Zi d 93 (37, [some (.inr (.inl 0)), some (.inl wi), some (.inl hi_), some (.inl pl_), some (.inl dp_)], [], n, D, s, p, c) _
          refine tt_k 6 (S' := (46, [some (.inr (.inl 0)), some (.inl wi), some (.inl hi_), some (.inl pl_), some (.inl dp_)], [.inl dp_, .inl pl_, .inl hi_, .inl wi, .inr (.inl 1)], n, D, s, p, c)) rfl ?_
          refine tt_cl (by omega) rfl (g_reshape1 (Zi := Zi) (q := q) (n := n) (D := D) (s := s) (p := p) (c := c) (by omega) hz (by omega) hS hC hW wi hi_ pl_ dp_ (by omega) (by omega) (by omega) (by omega)) ?_
          rintro _ _ ⟨n20, D21, s22, p23, c24, rfl, rfl, hS22, hC24, hW25, f26, g27, xe28, k29, k30, k31, k32⟩
          show tt Zi d 93 (49, [some (.inr (.inl 0)), some (.inl wi), some (.inl hi_), some (.inl pl_), some (.inl dp_)], [], n20, D21, s22, p23, c24) _
          replace k29 : (s22 100) = wi := k29
          replace k30 : (s22 101) = hi_ := k30
          replace k31 : (s22 102) = pl_ := k31
          replace k32 : (s22 103) = dp_ := k32
          have b33 : 1 ≤ (s22 100) ∧ (s22 100) ≤ 64 := hS22 100
          have b34 : 1 ≤ (s22 101) ∧ (s22 101) ≤ 64 := hS22 101
          have b35 : 1 ≤ (s22 102) ∧ (s22 102) ≤ 3 := hS22 102
          have b36 : 2 ≤ (s22 103) ∧ (s22 103) ≤ 16 := hS22 103
          refine tt_k 3 (S' := (54, [some (.inr (.inl 0)), some (.inl wi), some (.inl hi_), some (.inl pl_), some (.inl dp_)], [.inl 0, .inr (.inl 3)], n20, D21, s22, p23, c24)) rfl ?_
          refine tt_cl (by omega) rfl (g_fill (A := 3) (m := 5) (s := s22) (p := p23) rfl (by omega) (by rw [(show bC_lo D21 3 = 0 ∧ bC_hi D21 3 = 65535 from ⟨rfl, rfl⟩).1, (show bC_lo D21 3 = 0 ∧ bC_hi D21 3 = 65535 from ⟨rfl, rfl⟩).2]; decide) hC24) ?_
          rintro _ _ ⟨c37, rfl, rfl, hC37⟩
          show tt Zi d 93 (57, [some (.inr (.inl 0)), some (.inl wi), some (.inl hi_), some (.inl pl_), some (.inl dp_)], [], n20, D21, s22, p23, c37) _
          exact tt_rtv rfl rfl (Or.inl ⟨rfl, cW_mono (q := q) (show cW q (us (us (us (us g 100 wi) 101 hi_) 102 pl_) 103 dp_) (n20, D21, s22, p23, c37) from ⟨hS22, hC37, hW25⟩) (by omega), by omega⟩)
        · show tt Zi d 93 (29, [some (.inr (.inl 0)), some (.inl wi), some (.inl hi_), some (.inl pl_), some (.inl dp_)], [], n, D, s, p, c) _
          have hn38 := wp_n hW (by omega)
          exact tt_thr (q := (11, 923)) rfl rfl (by decide) (by decide) (by omega) (by omega) (Or.inr ⟨rfl, cW_mono (q := q + 1) ⟨hS, bC_x hC (hW).dz (by decide), wp_x hW⟩ (by omega), by omega⟩)
set_option maxRecDepth 100000 in
set_option maxHeartbeats 4000000 in
theorem g_at {g : Nat → Int} {Zi : Nat → Option (Nat × (Nat → Int))} {d n q : Nat} {D : Nat → Nat × Nat} {s : Nat → Int} {p : Nat → Nat} {c : Nat → Nat → Int} (hd : 3 ≤ d) (hz : zk Zi) (hq : q + 6 ≤ 400000) (hS : bS s) (hC : bC D c) (hW : wp q g n D p s) (a_ : Int) (x : Int) (y : Int) (b_a_ : -2147483648 ≤ a_ ∧ a_ ≤ 2147483647) (b_x : -2147483648 ≤ x ∧ x ≤ 2147483647) (b_y : -2147483648 ≤ y ∧ y ≤ 2147483647) : tt Zi d 101 (0, [some (.inr (.inl 0)), some (.inl a_), some (.inl x), some (.inl y)], [], n, D, s, p, c) (fun R H => (∃ r : Int, R = .inl (some (.inl r)) ∧ (0 ≤ r ∧ r ≤ 65535) ∧ cW (q + 1) g H) ∨ (R = .inr 13 ∧ cW (q + 1) g H)) := by
  have b1 : ln D (p 104) ≤ 12288 := (hW).p1.2.2
  have b2 : 1 ≤ (s 100) ∧ (s 100) ≤ 64 := hS 100
  have b3 : 1 ≤ (s 101) ∧ (s 101) ≤ 64 := hS 101
  have b4 : 1 ≤ (s 102) ∧ (s 102) ≤ 3 := hS 102
  have hw1 := hW.w1
  refine tt_k 5 (S' := (7, [some (.inr (.inl 0)), some (.inl a_), some (.inl x), some (.inl y)], [.inl y, .inl x, .inl a_, .inr (.inl 1)], n, D, s, p, c)) rfl ?_
  refine tt_cl (by omega) rfl (g_has1 (Zi := Zi) (q := q) (n := n) (D := D) (s := s) (p := p) (c := c) (by omega) hz (by omega) hS hC hW a_ x y (by omega) (by omega) (by omega)) ?_
  rintro _ _ ⟨r5, rfl, rfl, b6, k7⟩
  show tt Zi d 101 (10, [some (.inr (.inl 0)), some (.inl a_), some (.inl x), some (.inl y)], [.inl r5], n, D, s, p, c) _
  replace k7 : r5 = 1 ↔ ((0 ≤ a_ ∧ a_ < (s 102)) ∧ (0 ≤ x ∧ x < (s 100)) ∧ (0 ≤ y ∧ y < (s 101))) := k7
  refine tz_ne (x := r5) rfl rfl (by omega) (fun h8 => ?_) (fun h8 => ?_)
  · show tt Zi d 101 (21, [some (.inr (.inl 0)), some (.inl a_), some (.inl x), some (.inl y)], [], n, D, s, p, c) _
    refine tt_k 8 (S' := (35, [some (.inr (.inl 0)), some (.inl a_), some (.inl x), some (.inl y)], [.inl y, .inl x, .inl a_, .inr (.inl 1), .inr (.inl (p 104))], n, D, s, p, c)) rfl ?_
    refine tt_cl (by omega) rfl (g_index1 (Zi := Zi) (q := q) (n := n) (D := D) (s := s) (p := p) (c := c) (by omega) hz (by omega) hS hC hW a_ x y (by omega) (by omega) (by omega) (show a_ < (s 102) ∧ x < (s 100) ∧ y < (s 101) by omega)) ?_
    rintro _ _ ⟨r9, rfl, rfl, b10, k11, k12⟩
    show tt Zi d 101 (38, [some (.inr (.inl 0)), some (.inl a_), some (.inl x), some (.inl y)], [.inl r9, .inr (.inl (p 104))], n, D, s, p, c) _
    replace k11 : r9 = (a_ * (s 101) + y) * (s 100) + x := k11
    replace k12 : r9 + (s 100) - x ≤ (s 100) * (s 101) * (s 102) := k12
    refine tt_ilb (i := r9) (m := (ln D (p 104))) (lo := 0) (hi := 65535) rfl ((hW).p1.1) (by omega) hC ((hW).p1.2.1) ?_
    intro v13 b14
    show tt Zi d 101 (39, [some (.inr (.inl 0)), some (.inl a_), some (.inl x), some (.inl y)], [.inl v13], n, D, s, p, c) _
    exact tt_rti rfl rfl (Or.inl ⟨v13, rfl, by omega, cW_mono (q := q) (show cW q g (n, D, s, p, c) from ⟨hS, hC, hW⟩) (by omega)⟩)
  · show tt Zi d 101 (13, [some (.inr (.inl 0)), some (.inl a_), some (.inl x), some (.inl y)], [], n, D, s, p, c) _
    have hn15 := wp_n hW (by omega)
    exact tt_thr (q := (13, 955)) rfl rfl (by decide) (by decide) (by omega) (by omega) (Or.inr ⟨rfl, cW_mono (q := q + 1) ⟨hS, bC_x hC (hW).dz (by decide), wp_x hW⟩ (by omega)⟩)
set_option maxRecDepth 100000 in
set_option maxHeartbeats 4000000 in
theorem g_measures {g : Nat → Int} {Zi : Nat → Option (Nat × (Nat → Int))} {d n q : Nat} {D : Nat → Nat × Nat} {s : Nat → Int} {p : Nat → Nat} {c : Nat → Nat → Int} (hd : 3 ≤ d) (hz : zk Zi) (hq : q + 6 ≤ 400000) (hS : bS s) (hC : bC D c) (hW : wp q g n D p s) (a1 : Int) (a2 : Int) (a3 : Int) (a4 : Int) (a5 : Int) (b_a1 : -2147483648 ≤ a1 ∧ a1 ≤ 2147483647) (b_a2 : -2147483648 ≤ a2 ∧ a2 ≤ 2147483647) (b_a3 : -2147483648 ≤ a3 ∧ a3 ≤ 2147483647) (b_a4 : -2147483648 ≤ a4 ∧ a4 ≤ 2147483647) (b_a5 : -2147483648 ≤ a5 ∧ a5 ≤ 2147483647) : tt Zi d 103 (0, [some (.inr (.inl 0)), some (.inl a1), some (.inl a2), some (.inl a3), some (.inl a4), some (.inl a5)], [], n, D, s, p, c) (fun R H => (R = .inl none ∧ cW (q + 1) g H ∧ ((0 ≤ a1 ∧ a1 ≤ 65535) ∧ (0 ≤ a2 ∧ a2 ≤ 65535) ∧ (0 ≤ a3 ∧ a3 ≤ 65535) ∧ (0 ≤ a4 ∧ a4 ≤ 65535) ∧ (0 ≤ a5 ∧ a5 ≤ 65535) ∧ a1 ≤ mi_shl 1 (s 103) - 1)) ∨ (R = .inr 11 ∧ cW (q + 1) g H ∧ ¬ ((0 ≤ a1 ∧ a1 ≤ 65535) ∧ (0 ≤ a2 ∧ a2 ≤ 65535) ∧ (0 ≤ a3 ∧ a3 ≤ 65535) ∧ (0 ≤ a4 ∧ a4 ≤ 65535) ∧ (0 ≤ a5 ∧ a5 ≤ 65535) ∧ a1 ≤ mi_shl 1 (s 103) - 1))) := by
  refine tt_k 1 (S' := (1, [some (.inr (.inl 0)), some (.inl a1), some (.inl a2), some (.inl a3), some (.inl a4), some (.inl a5)], [.inl a1], n, D, s, p, c)) rfl ?_
  refine tt_cl (by omega) rfl (g_isNumber (Zi := Zi) (q := q) (n := n) (D := D) (s := s) (p := p) (c := c) (by omega) hz (by omega) hS hC hW a1 (by omega)) ?_
  rintro _ _ ⟨r1, rfl, rfl, b2, k3⟩
  show tt Zi d 103 (4, [some (.inr (.inl 0)), some (.inl a1), some (.inl a2), some (.inl a3), some (.inl a4), some (.inl a5)], [.inl r1], n, D, s, p, c) _
  replace k3 : r1 = 1 ↔ (0 ≤ a1 ∧ a1 ≤ 65535) := k3
  refine tz_eq (x := r1) rfl rfl (by omega) (fun h4 => ?_) (fun h4 => ?_)
  · show tt Zi d 103 (48, [some (.inr (.inl 0)), some (.inl a1), some (.inl a2), some (.inl a3), some (.inl a4), some (.inl a5)], [], n, D, s, p, c) _
    have hn5 := wp_n hW (by omega)
    exact tt_thr (q := (11, 923)) rfl rfl (by decide) (by decide) (by omega) (by omega) (Or.inr ⟨rfl, cW_mono (q := q + 1) ⟨hS, bC_x hC (hW).dz (by decide), wp_x hW⟩ (by omega), by omega⟩)
  · show tt Zi d 103 (7, [some (.inr (.inl 0)), some (.inl a1), some (.inl a2), some (.inl a3), some (.inl a4), some (.inl a5)], [], n, D, s, p, c) _
    refine tt_k 1 (S' := (8, [some (.inr (.inl 0)), some (.inl a1), some (.inl a2), some (.inl a3), some (.inl a4), some (.inl a5)], [.inl a2], n, D, s, p, c)) rfl ?_
    refine tt_cl (by omega) rfl (g_isNumber (Zi := Zi) (q := q) (n := n) (D := D) (s := s) (p := p) (c := c) (by omega) hz (by omega) hS hC hW a2 (by omega)) ?_
    rintro _ _ ⟨r6, rfl, rfl, b7, k8⟩
    show tt Zi d 103 (11, [some (.inr (.inl 0)), some (.inl a1), some (.inl a2), some (.inl a3), some (.inl a4), some (.inl a5)], [.inl r6], n, D, s, p, c) _
    replace k8 : r6 = 1 ↔ (0 ≤ a2 ∧ a2 ≤ 65535) := k8
    refine tz_eq (x := r6) rfl rfl (by omega) (fun h9 => ?_) (fun h9 => ?_)
    · show tt Zi d 103 (48, [some (.inr (.inl 0)), some (.inl a1), some (.inl a2), some (.inl a3), some (.inl a4), some (.inl a5)], [], n, D, s, p, c) _
      have hn10 := wp_n hW (by omega)
      exact tt_thr (q := (11, 923)) rfl rfl (by decide) (by decide) (by omega) (by omega) (Or.inr ⟨rfl, cW_mono (q := q + 1) ⟨hS, bC_x hC (hW).dz (by decide), wp_x hW⟩ (by omega), by omega⟩)
    · show tt Zi d 103 (14, [some (.inr (.inl 0)), some (.inl a1), some (.inl a2), some (.inl a3), some (.inl a4), some (.inl a5)], [], n, D, s, p, c) _
      refine tt_k 1 (S' := (15, [some (.inr (.inl 0)), some (.inl a1), some (.inl a2), some (.inl a3), some (.inl a4), some (.inl a5)], [.inl a3], n, D, s, p, c)) rfl ?_
      refine tt_cl (by omega) rfl (g_isNumber (Zi := Zi) (q := q) (n := n) (D := D) (s := s) (p := p) (c := c) (by omega) hz (by omega) hS hC hW a3 (by omega)) ?_
      rintro _ _ ⟨r11, rfl, rfl, b12, k13⟩
      show tt Zi d 103 (18, [some (.inr (.inl 0)), some (.inl a1), some (.inl a2), some (.inl a3), some (.inl a4), some (.inl a5)], [.inl r11], n, D, s, p, c) _
      replace k13 : r11 = 1 ↔ (0 ≤ a3 ∧ a3 ≤ 65535) := k13
      refine tz_eq (x := r11) rfl rfl (by omega) (fun h14 => ?_) (fun h14 => ?_)
      · show tt Zi d 103 (48, [some (.inr (.inl 0)), some (.inl a1), some (.inl a2), some (.inl a3), some (.inl a4), some (.inl a5)], [], n, D, s, p, c) _
        have hn15 := wp_n hW (by omega)
        exact tt_thr (q := (11, 923)) rfl rfl (by decide) (by decide) (by omega) (by omega) (Or.inr ⟨rfl, cW_mono (q := q + 1) ⟨hS, bC_x hC (hW).dz (by decide), wp_x hW⟩ (by omega), by omega⟩)
      · show tt Zi d 103 (21, [some (.inr (.inl 0)), some (.inl a1), some (.inl a2), some (.inl a3), some (.inl a4), some (.inl a5)], [], n, D, s, p, c) _
        refine tt_k 1 (S' := (23, [some (.inr (.inl 0)), some (.inl a1), some (.inl a2), some (.inl a3), some (.inl a4), some (.inl a5)], [.inl a4], n, D, s, p, c)) rfl ?_
        refine tt_cl (by omega) rfl (g_isNumber (Zi := Zi) (q := q) (n := n) (D := D) (s := s) (p := p) (c := c) (by omega) hz (by omega) hS hC hW a4 (by omega)) ?_
        rintro _ _ ⟨r16, rfl, rfl, b17, k18⟩
        show tt Zi d 103 (26, [some (.inr (.inl 0)), some (.inl a1), some (.inl a2), some (.inl a3), some (.inl a4), some (.inl a5)], [.inl r16], n, D, s, p, c) _
        replace k18 : r16 = 1 ↔ (0 ≤ a4 ∧ a4 ≤ 65535) := k18
        refine tz_eq (x := r16) rfl rfl (by omega) (fun h19 => ?_) (fun h19 => ?_)
        · show tt Zi d 103 (48, [some (.inr (.inl 0)), some (.inl a1), some (.inl a2), some (.inl a3), some (.inl a4), some (.inl a5)], [], n, D, s, p, c) _
          have hn20 := wp_n hW (by omega)
          exact tt_thr (q := (11, 923)) rfl rfl (by decide) (by decide) (by omega) (by omega) (Or.inr ⟨rfl, cW_mono (q := q + 1) ⟨hS, bC_x hC (hW).dz (by decide), wp_x hW⟩ (by omega), by omega⟩)
        · show tt Zi d 103 (29, [some (.inr (.inl 0)), some (.inl a1), some (.inl a2), some (.inl a3), some (.inl a4), some (.inl a5)], [], n, D, s, p, c) _
          refine tt_k 1 (S' := (31, [some (.inr (.inl 0)), some (.inl a1), some (.inl a2), some (.inl a3), some (.inl a4), some (.inl a5)], [.inl a5], n, D, s, p, c)) rfl ?_
          refine tt_cl (by omega) rfl (g_isNumber (Zi := Zi) (q := q) (n := n) (D := D) (s := s) (p := p) (c := c) (by omega) hz (by omega) hS hC hW a5 (by omega)) ?_
          rintro _ _ ⟨r21, rfl, rfl, b22, k23⟩
          show tt Zi d 103 (34, [some (.inr (.inl 0)), some (.inl a1), some (.inl a2), some (.inl a3), some (.inl a4), some (.inl a5)], [.inl r21], n, D, s, p, c) _
          replace k23 : r21 = 1 ↔ (0 ≤ a5 ∧ a5 ≤ 65535) := k23
          refine tz_eq (x := r21) rfl rfl (by omega) (fun h24 => ?_) (fun h24 => ?_)
          · show tt Zi d 103 (48, [some (.inr (.inl 0)), some (.inl a1), some (.inl a2), some (.inl a3), some (.inl a4), some (.inl a5)], [], n, D, s, p, c) _
            have hn25 := wp_n hW (by omega)
            exact tt_thr (q := (11, 923)) rfl rfl (by decide) (by decide) (by omega) (by omega) (Or.inr ⟨rfl, cW_mono (q := q + 1) ⟨hS, bC_x hC (hW).dz (by decide), wp_x hW⟩ (by omega), by omega⟩)
          · show tt Zi d 103 (37, [some (.inr (.inl 0)), some (.inl a1), some (.inl a2), some (.inl a3), some (.inl a4), some (.inl a5)], [], n, D, s, p, c) _
            refine tt_k 3 (S' := (42, [some (.inr (.inl 0)), some (.inl a1), some (.inl a2), some (.inl a3), some (.inl a4), some (.inl a5)], [.inr (.inl 1), .inl a1], n, D, s, p, c)) rfl ?_
            refine tt_cl (by omega) rfl (g_greatest1 (Zi := Zi) (q := q) (n := n) (D := D) (s := s) (p := p) (c := c) (by omega) hz (by omega) hS hC hW ) ?_
            rintro _ _ ⟨r26, rfl, rfl, b27, k28⟩
            show tt Zi d 103 (45, [some (.inr (.inl 0)), some (.inl a1), some (.inl a2), some (.inl a3), some (.inl a4), some (.inl a5)], [.inl r26, .inl a1], n, D, s, p, c) _
            replace k28 : r26 = mi_shl 1 ((s 103)) - 1 := k28
            have b29 : 2 ≤ (s 103) ∧ (s 103) ≤ 16 := hS 103
            refine tb_le (x := a1) (y := r26) rfl rfl (by omega) (fun h30 => ?_) (fun h30 => ?_)
            · show tt Zi d 103 (56, [some (.inr (.inl 0)), some (.inl a1), some (.inl a2), some (.inl a3), some (.inl a4), some (.inl a5)], [], n, D, s, p, c) _
              refine tt_k 4 (S' := (62, [some (.inr (.inl 0)), some (.inl a1), some (.inl a2), some (.inl a3), some (.inl a4), some (.inl a5)], [.inl a1, .inl 0, .inr (.inl 3)], n, D, s, p, c)) rfl ?_
              refine tt_isb (i := 0) (m := 5) (lo := 0) (hi := 65535) (x := a1) rfl rfl (by omega) hC ⟨rfl, rfl⟩ (by omega) ?_
              intro c31 hC31
              show tt Zi d 103 (63, [some (.inr (.inl 0)), some (.inl a1), some (.inl a2), some (.inl a3), some (.inl a4), some (.inl a5)], [], n, D, s, p, c31) _
              refine tt_k 4 (S' := (69, [some (.inr (.inl 0)), some (.inl a1), some (.inl a2), some (.inl a3), some (.inl a4), some (.inl a5)], [.inl a2, .inl 1, .inr (.inl 3)], n, D, s, p, c31)) rfl ?_
              refine tt_isb (i := 1) (m := 5) (lo := 0) (hi := 65535) (x := a2) rfl rfl (by omega) hC31 ⟨rfl, rfl⟩ (by omega) ?_
              intro c32 hC32
              show tt Zi d 103 (70, [some (.inr (.inl 0)), some (.inl a1), some (.inl a2), some (.inl a3), some (.inl a4), some (.inl a5)], [], n, D, s, p, c32) _
              refine tt_k 4 (S' := (76, [some (.inr (.inl 0)), some (.inl a1), some (.inl a2), some (.inl a3), some (.inl a4), some (.inl a5)], [.inl a3, .inl 2, .inr (.inl 3)], n, D, s, p, c32)) rfl ?_
              refine tt_isb (i := 2) (m := 5) (lo := 0) (hi := 65535) (x := a3) rfl rfl (by omega) hC32 ⟨rfl, rfl⟩ (by omega) ?_
              intro c33 hC33
              show tt Zi d 103 (77, [some (.inr (.inl 0)), some (.inl a1), some (.inl a2), some (.inl a3), some (.inl a4), some (.inl a5)], [], n, D, s, p, c33) _
              refine tt_k 4 (S' := (84, [some (.inr (.inl 0)), some (.inl a1), some (.inl a2), some (.inl a3), some (.inl a4), some (.inl a5)], [.inl a4, .inl 3, .inr (.inl 3)], n, D, s, p, c33)) rfl ?_
              refine tt_isb (i := 3) (m := 5) (lo := 0) (hi := 65535) (x := a4) rfl rfl (by omega) hC33 ⟨rfl, rfl⟩ (by omega) ?_
              intro c34 hC34
              show tt Zi d 103 (85, [some (.inr (.inl 0)), some (.inl a1), some (.inl a2), some (.inl a3), some (.inl a4), some (.inl a5)], [], n, D, s, p, c34) _
              refine tt_k 4 (S' := (92, [some (.inr (.inl 0)), some (.inl a1), some (.inl a2), some (.inl a3), some (.inl a4), some (.inl a5)], [.inl a5, .inl 4, .inr (.inl 3)], n, D, s, p, c34)) rfl ?_
              refine tt_isb (i := 4) (m := 5) (lo := 0) (hi := 65535) (x := a5) rfl rfl (by omega) hC34 ⟨rfl, rfl⟩ (by omega) ?_
              intro c35 hC35
              show tt Zi d 103 (93, [some (.inr (.inl 0)), some (.inl a1), some (.inl a2), some (.inl a3), some (.inl a4), some (.inl a5)], [], n, D, s, p, c35) _
              exact tt_rtv rfl rfl (Or.inl ⟨rfl, cW_mono (q := q) (show cW q g (n, D, s, p, c35) from ⟨hS, hC35, hW⟩) (by omega), by omega⟩)
            · show tt Zi d 103 (48, [some (.inr (.inl 0)), some (.inl a1), some (.inl a2), some (.inl a3), some (.inl a4), some (.inl a5)], [], n, D, s, p, c) _
              have hn36 := wp_n hW (by omega)
              exact tt_thr (q := (11, 923)) rfl rfl (by decide) (by decide) (by omega) (by omega) (Or.inr ⟨rfl, cW_mono (q := q + 1) ⟨hS, bC_x hC (hW).dz (by decide), wp_x hW⟩ (by omega), by omega⟩)
set_option maxRecDepth 100000 in
set_option maxHeartbeats 4000000 in
theorem g_size {g : Nat → Int} {Zi : Nat → Option (Nat × (Nat → Int))} {d n q : Nat} {D : Nat → Nat × Nat} {s : Nat → Int} {p : Nat → Nat} {c : Nat → Nat → Int} (hd : 0 ≤ d) (hz : zk Zi) (hq : q + 0 ≤ 400000) (hS : bS s) (hC : bC D c) (hW : wp q g n D p s)  : tt Zi d 14 (0, [some (.inr (.inl 0))], [], n, D, s, p, c) (fun R H => (∃ r : Int, R = .inl (some (.inl r)) ∧ (0 ≤ r ∧ r ≤ 262144) ∧ cW (q + 1) g H)) := by
  refine tt_k 3 (S' := (7, [some (.inr (.inl 0))], [.inl (s 401)], n, D, s, p, c)) rfl ?_
  have b1 : 0 ≤ (s 401) ∧ (s 401) ≤ 262144 := hS 401
  exact tt_rti rfl rfl ⟨(s 401), rfl, by omega, cW_mono (q := q) (show cW q g (n, D, s, p, c) from ⟨hS, hC, hW⟩) (by omega)⟩
set_option maxRecDepth 100000 in
set_option maxHeartbeats 4000000 in
theorem g_out {g : Nat → Int} {Zi : Nat → Option (Nat × (Nat → Int))} {d n q : Nat} {D : Nat → Nat × Nat} {s : Nat → Int} {p : Nat → Nat} {c : Nat → Nat → Int} (hd : 3 ≤ d) (hz : zk Zi) (hq : q + 6 ≤ 400000) (hS : bS s) (hC : bC D c) (hW : wp q g n D p s) (i : Int) (b_i : -2147483648 ≤ i ∧ i ≤ 2147483647) : tt Zi d 116 (0, [some (.inr (.inl 0)), some (.inl i)], [], n, D, s, p, c) (fun R H => (∃ r : Int, R = .inl (some (.inl r)) ∧ (0 ≤ r ∧ r ≤ 255) ∧ cW (q + 1) g H) ∨ (R = .inr 13 ∧ cW (q + 1) g H)) := by
  have b1 := wp_l4 hW
  have hc4 := hW.c4
  refine tt_k 1 (S' := (1, [some (.inr (.inl 0)), some (.inl i)], [.inl i], n, D, s, p, c)) rfl ?_
  refine tz_lt (x := i) rfl rfl (by omega) (fun h2 => ?_) (fun h2 => ?_)
  · show tt Zi d 116 (15, [some (.inr (.inl 0)), some (.inl i)], [], n, D, s, p, c) _
    have hn3 := wp_n hW (by omega)
    exact tt_thr (q := (13, 955)) rfl rfl (by decide) (by decide) (by omega) (by omega) (Or.inr ⟨rfl, cW_mono (q := q + 1) ⟨hS, bC_x hC (hW).dz (by decide), wp_x hW⟩ (by omega)⟩)
  · show tt Zi d 116 (4, [some (.inr (.inl 0)), some (.inl i)], [], n, D, s, p, c) _
    refine tt_k 4 (S' := (12, [some (.inr (.inl 0)), some (.inl i)], [.inl (s 401), .inl i], n, D, s, p, c)) rfl ?_
    have b4 : 0 ≤ (s 401) ∧ (s 401) ≤ 262144 := hS 401
    refine tb_lt (x := i) (y := (s 401)) rfl rfl (by omega) (fun h5 => ?_) (fun h5 => ?_)
    · show tt Zi d 116 (23, [some (.inr (.inl 0)), some (.inl i)], [], n, D, s, p, c) _
      refine tt_k 3 (S' := (28, [some (.inr (.inl 0)), some (.inl i)], [.inl i, .inr (.inl 4)], n, D, s, p, c)) rfl ?_
      refine tt_cl (by omega) rfl (g_get4 (Zi := Zi) (q := q) (n := n) (D := D) (s := s) (p := p) (c := c) (by omega) hz (by omega) hS hC hW i (by omega) (show 0 ≤ i ∧ i < (ln D (p 400) : Int) by omega)) ?_
      rintro _ _ ⟨r6, rfl, rfl, b7⟩
      show tt Zi d 116 (31, [some (.inr (.inl 0)), some (.inl i)], [.inl r6], n, D, s, p, c) _
      exact tt_rti rfl rfl (Or.inl ⟨r6, rfl, by omega, cW_mono (q := q) (show cW q g (n, D, s, p, c) from ⟨hS, hC, hW⟩) (by omega)⟩)
    · show tt Zi d 116 (15, [some (.inr (.inl 0)), some (.inl i)], [], n, D, s, p, c) _
      have hn8 := wp_n hW (by omega)
      exact tt_thr (q := (13, 955)) rfl rfl (by decide) (by decide) (by omega) (by omega) (Or.inr ⟨rfl, cW_mono (q := q + 1) ⟨hS, bC_x hC (hW).dz (by decide), wp_x hW⟩ (by omega)⟩)
set_option maxRecDepth 100000 in
set_option maxHeartbeats 4000000 in
theorem g_feed {g : Nat → Int} {Zi : Nat → Option (Nat × (Nat → Int))} {d n q : Nat} {D : Nat → Nat × Nat} {s : Nat → Int} {p : Nat → Nat} {c : Nat → Nat → Int} (hd : 4 ≤ d) (hz : zk Zi) (hq : q + 8 ≤ 400000) (hS : bS s) (hC : bC D c) (hW : wp q g n D p s) (a1 : Int) (a2 : Int) (a3 : Int) (a4 : Int) (a5 : Int) (b_a1 : -2147483648 ≤ a1 ∧ a1 ≤ 2147483647) (b_a2 : -2147483648 ≤ a2 ∧ a2 ≤ 2147483647) (b_a3 : -2147483648 ≤ a3 ∧ a3 ≤ 2147483647) (b_a4 : -2147483648 ≤ a4 ∧ a4 ≤ 2147483647) (b_a5 : -2147483648 ≤ a5 ∧ a5 ≤ 2147483647) : tt Zi d 118 (0, [some (.inr (.inl 0)), some (.inl a1), some (.inl a2), some (.inl a3), some (.inl a4), some (.inl a5)], [], n, D, s, p, c) (fun R H => (∃ r : Int, R = .inl (some (.inl r)) ∧ (0 ≤ r ∧ r ≤ 32768) ∧ cW (q + 1) g H) ∨ (R = .inr 12 ∧ cW (q + 1) g H)) := by
  refine tt_k 6 (S' := (12, [some (.inr (.inl 0)), some (.inl a1), some (.inl a2), some (.inl a3), some (.inl a4), some (.inl a5)], [.inl 32768, .inl ((s 601) + 20)], n, D, s, p, c)) rfl ?_
  have b1 : 0 ≤ (s 601) ∧ (s 601) ≤ 32768 := hS 601
  refine tb_le (x := ((s 601) + 20)) (y := 32768) rfl rfl (by omega) (fun h2 => ?_) (fun h2 => ?_)
  · show tt Zi d 118 (23, [some (.inr (.inl 0)), some (.inl a1), some (.inl a2), some (.inl a3), some (.inl a4), some (.inl a5)], [], n, D, s, p, c) _
    refine tt_k 3 (S' := (28, [some (.inr (.inl 0)), some (.inl a1), some (.inl a2), some (.inl a3), some (.inl a4), some (.inl a5)], [.inl a1, .inr (.inl 6)], n, D, s, p, c)) rfl ?_
    refine tt_cl (by omega) rfl (g_addFour6 (Zi := Zi) (q := q) (n := n) (D := D) (s := s) (p := p) (c := c) (by omega) hz (by omega) hS hC hW a1 (by omega) (show (s 601) ≤ 32764 by omega)) ?_
    rintro _ _ ⟨n3, D4, s5, p6, c7, rfl, rfl, hS5, hC7, hW8, f9, g10, xe11, k12⟩
    show tt Zi d 118 (31, [some (.inr (.inl 0)), some (.inl a1), some (.inl a2), some (.inl a3), some (.inl a4), some (.inl a5)], [], n3, D4, s5, p6, c7) _
    replace k12 : (s5 601) = (s 601) + 4 := k12
    have b13 : 0 ≤ (s5 601) ∧ (s5 601) ≤ 32768 := hS5 601
    refine tt_k 3 (S' := (36, [some (.inr (.inl 0)), some (.inl a1), some (.inl a2), some (.inl a3), some (.inl a4), some (.inl a5)], [.inl a2, .inr (.inl 6)], n3, D4, s5, p6, c7)) rfl ?_
    refine tt_cl (by omega) rfl (g_addFour6 (Zi := Zi) (q := q) (n := n3) (D := D4) (s := s5) (p := p6) (c := c7) (by omega) hz (by omega) hS5 hC7 hW8 a2 (by omega) (show (s5 601) ≤ 32764 by omega)) ?_
    rintro _ _ ⟨n14, D15, s16, p17, c18, rfl, rfl, hS16, hC18, hW19, f20, g21, xe22, k23⟩
    show tt Zi d 118 (39, [some (.inr (.inl 0)), some (.inl a1), some (.inl a2), some (.inl a3), some (.inl a4), some (.inl a5)], [], n14, D15, s16, p17, c18) _
    replace k23 : (s16 601) = (s5 601) + 4 := k23
    have b24 : 0 ≤ (s16 601) ∧ (s16 601) ≤ 32768 := hS16 601
    refine tt_k 3 (S' := (44, [some (.inr (.inl 0)), some (.inl a1), some (.inl a2), some (.inl a3), some (.inl a4), some (.inl a5)], [.inl a3, .inr (.inl 6)], n14, D15, s16, p17, c18)) rfl ?_
    refine tt_cl (by omega) rfl (g_addFour6 (Zi := Zi) (q := q) (n := n14) (D := D15) (s := s16) (p := p17) (c := c18) (by omega) hz (by omega) hS16 hC18 hW19 a3 (by omega) (show (s16 601) ≤ 32764 by omega)) ?_
    rintro _ _ ⟨n25, D26, s27, p28, c29, rfl, rfl, hS27, hC29, hW30, f31, g32, xe33, k34⟩
    show tt Zi d 118 (47, [some (.inr (.inl 0)), some (.inl a1), some (.inl a2), some (.inl a3), some (.inl a4), some (.inl a5)], [], n25, D26, s27, p28, c29) _
    replace k34 : (s27 601) = (s16 601) + 4 := k34
    have b35 : 0 ≤ (s27 601) ∧ (s27 601) ≤ 32768 := hS27 601
    refine tt_k 3 (S' := (53, [some (.inr (.inl 0)), some (.inl a1), some (.inl a2), some (.inl a3), some (.inl a4), some (.inl a5)], [.inl a4, .inr (.inl 6)], n25, D26, s27, p28, c29)) rfl ?_
    refine tt_cl (by omega) rfl (g_addFour6 (Zi := Zi) (q := q) (n := n25) (D := D26) (s := s27) (p := p28) (c := c29) (by omega) hz (by omega) hS27 hC29 hW30 a4 (by omega) (show (s27 601) ≤ 32764 by omega)) ?_
    rintro _ _ ⟨n36, D37, s38, p39, c40, rfl, rfl, hS38, hC40, hW41, f42, g43, xe44, k45⟩
    show tt Zi d 118 (56, [some (.inr (.inl 0)), some (.inl a1), some (.inl a2), some (.inl a3), some (.inl a4), some (.inl a5)], [], n36, D37, s38, p39, c40) _
    replace k45 : (s38 601) = (s27 601) + 4 := k45
    have b46 : 0 ≤ (s38 601) ∧ (s38 601) ≤ 32768 := hS38 601
    refine tt_k 3 (S' := (62, [some (.inr (.inl 0)), some (.inl a1), some (.inl a2), some (.inl a3), some (.inl a4), some (.inl a5)], [.inl a5, .inr (.inl 6)], n36, D37, s38, p39, c40)) rfl ?_
    refine tt_cl (by omega) rfl (g_addFour6 (Zi := Zi) (q := q) (n := n36) (D := D37) (s := s38) (p := p39) (c := c40) (by omega) hz (by omega) hS38 hC40 hW41 a5 (by omega) (show (s38 601) ≤ 32764 by omega)) ?_
    rintro _ _ ⟨n47, D48, s49, p50, c51, rfl, rfl, hS49, hC51, hW52, f53, g54, xe55, k56⟩
    show tt Zi d 118 (65, [some (.inr (.inl 0)), some (.inl a1), some (.inl a2), some (.inl a3), some (.inl a4), some (.inl a5)], [], n47, D48, s49, p50, c51) _
    replace k56 : (s49 601) = (s38 601) + 4 := k56
    have b57 : 0 ≤ (s49 601) ∧ (s49 601) ≤ 32768 := hS49 601
    refine tt_k 3 (S' := (72, [some (.inr (.inl 0)), some (.inl a1), some (.inl a2), some (.inl a3), some (.inl a4), some (.inl a5)], [.inl (s49 601)], n47, D48, s49, p50, c51)) rfl ?_
    exact tt_rti rfl rfl (Or.inl ⟨(s49 601), rfl, by omega, cW_mono (q := q) (show cW q g (n47, D48, s49, p50, c51) from ⟨hS49, hC51, hW52⟩) (by omega)⟩)
  · show tt Zi d 118 (15, [some (.inr (.inl 0)), some (.inl a1), some (.inl a2), some (.inl a3), some (.inl a4), some (.inl a5)], [], n, D, s, p, c) _
    have hn58 := wp_n hW (by omega)
    exact tt_thr (q := (12, 475)) rfl rfl (by decide) (by decide) (by omega) (by omega) (Or.inr ⟨rfl, cW_mono (q := q + 1) ⟨hS, bC_x hC (hW).dz (by decide), wp_x hW⟩ (by omega)⟩)
set_option maxRecDepth 100000 in
set_option maxHeartbeats 4000000 in
theorem g_end {g : Nat → Int} {Zi : Nat → Option (Nat × (Nat → Int))} {d n q : Nat} {D : Nat → Nat × Nat} {s : Nat → Int} {p : Nat → Nat} {c : Nat → Nat → Int} (hd : 3 ≤ d) (hz : zk Zi) (hq : q + 6 ≤ 400000) (hS : bS s) (hC : bC D c) (hW : wp q g n D p s) (i : Int) (b_i : -2147483648 ≤ i ∧ i ≤ 2147483647) : tt Zi d 121 (0, [some (.inr (.inl 0)), some (.inl i)], [], n, D, s, p, c) (fun R H => (R = .inl none ∧ cW (q + 1) g H) ∨ (R = .inr 11 ∧ cW (q + 1) g H)) := by
  have b1 := wp_l6 hW
  have hc6 := hW.c6
  have b2 : 0 ≤ (s 601) ∧ (s 601) ≤ 32768 := hS 601
  refine tt_k 1 (S' := (1, [some (.inr (.inl 0)), some (.inl i)], [.inl i], n, D, s, p, c)) rfl ?_
  refine tz_lt (x := i) rfl rfl (by omega) (fun h3 => ?_) (fun h3 => ?_)
  · show tt Zi d 121 (15, [some (.inr (.inl 0)), some (.inl i)], [], n, D, s, p, c) _
    have hn4 := wp_n hW (by omega)
    exact tt_thr (q := (11, 923)) rfl rfl (by decide) (by decide) (by omega) (by omega) (Or.inr ⟨rfl, cW_mono (q := q + 1) ⟨hS, bC_x hC (hW).dz (by decide), wp_x hW⟩ (by omega)⟩)
  · show tt Zi d 121 (4, [some (.inr (.inl 0)), some (.inl i)], [], n, D, s, p, c) _
    refine tt_k 4 (S' := (12, [some (.inr (.inl 0)), some (.inl i)], [.inl (s 601), .inl i], n, D, s, p, c)) rfl ?_
    refine tb_le (x := i) (y := (s 601)) rfl rfl (by omega) (fun h5 => ?_) (fun h5 => ?_)
    · show tt Zi d 121 (23, [some (.inr (.inl 0)), some (.inl i)], [], n, D, s, p, c) _
      refine tt_k 4 (S' := (31, [some (.inr (.inl 0)), some (.inl i)], [], n, D, (us s 601 i), p, c)) rfl ?_
      exact tt_rtv rfl rfl (Or.inl ⟨rfl, cW_mono (q := q) (show cW q g (n, D, (us s 601 i), p, c) from ⟨(bS_us hS (show 0 ≤ i ∧ i ≤ 32768 by omega)), hC, (wp_c6 hW (show i ≤ (ln D (p 600) : Int) by omega))⟩) (by omega)⟩)
    · show tt Zi d 121 (15, [some (.inr (.inl 0)), some (.inl i)], [], n, D, s, p, c) _
      have hn6 := wp_n hW (by omega)
      exact tt_thr (q := (11, 923)) rfl rfl (by decide) (by decide) (by omega) (by omega) (Or.inr ⟨rfl, cW_mono (q := q + 1) ⟨hS, bC_x hC (hW).dz (by decide), wp_x hW⟩ (by omega)⟩)
set_option maxRecDepth 100000 in
set_option maxHeartbeats 4000000 in
theorem g_change {g : Nat → Int} {Zi : Nat → Option (Nat × (Nat → Int))} {d n q : Nat} {D : Nat → Nat × Nat} {s : Nat → Int} {p : Nat → Nat} {c : Nat → Nat → Int} (hd : 3 ≤ d) (hz : zk Zi) (hq : q + 6 ≤ 400000) (hS : bS s) (hC : bC D c) (hW : wp q g n D p s) (i : Int) (y : Int) (b_i : -2147483648 ≤ i ∧ i ≤ 2147483647) (b_y : -2147483648 ≤ y ∧ y ≤ 2147483647) : tt Zi d 123 (0, [some (.inr (.inl 0)), some (.inl i), some (.inl y), none], [], n, D, s, p, c) (fun R H => (∃ r : Int, R = .inl (some (.inl r)) ∧ (-2147483648 ≤ r ∧ r ≤ 2147483647) ∧ cW (q + 1) g H) ∨ (R = .inr 13 ∧ cW (q + 1) g H) ∨ (R = .inr 11 ∧ cW (q + 1) g H)) := by
  have b1 := wp_l6 hW
  have hc6 := hW.c6
  have b2 : 0 ≤ (s 601) ∧ (s 601) ≤ 32768 := hS 601
  refine tt_k 1 (S' := (1, [some (.inr (.inl 0)), some (.inl i), some (.inl y), none], [.inl i], n, D, s, p, c)) rfl ?_
  refine tz_lt (x := i) rfl rfl (by omega) (fun h3 => ?_) (fun h3 => ?_)
  · show tt Zi d 123 (15, [some (.inr (.inl 0)), some (.inl i), some (.inl y), none], [], n, D, s, p, c) _
    have hn4 := wp_n hW (by omega)
    exact tt_thr (q := (13, 955)) rfl rfl (by decide) (by decide) (by omega) (by omega) (Or.inr (Or.inl ⟨rfl, cW_mono (q := q + 1) ⟨hS, bC_x hC (hW).dz (by decide), wp_x hW⟩ (by omega)⟩))
  · show tt Zi d 123 (4, [some (.inr (.inl 0)), some (.inl i), some (.inl y), none], [], n, D, s, p, c) _
    refine tt_k 4 (S' := (12, [some (.inr (.inl 0)), some (.inl i), some (.inl y), none], [.inl (s 601), .inl i], n, D, s, p, c)) rfl ?_
    refine tb_lt (x := i) (y := (s 601)) rfl rfl (by omega) (fun h5 => ?_) (fun h5 => ?_)
    · show tt Zi d 123 (23, [some (.inr (.inl 0)), some (.inl i), some (.inl y), none], [], n, D, s, p, c) _
      refine tt_k 1 (S' := (24, [some (.inr (.inl 0)), some (.inl i), some (.inl y), none], [.inl y], n, D, s, p, c)) rfl ?_
      refine tz_lt (x := y) rfl rfl (by omega) (fun h6 => ?_) (fun h6 => ?_)
      · show tt Zi d 123 (34, [some (.inr (.inl 0)), some (.inl i), some (.inl y), none], [], n, D, s, p, c) _
        have hn7 := wp_n hW (by omega)
        exact tt_thr (q := (11, 923)) rfl rfl (by decide) (by decide) (by omega) (by omega) (Or.inr (Or.inr ⟨rfl, cW_mono (q := q + 1) ⟨hS, bC_x hC (hW).dz (by decide), wp_x hW⟩ (by omega)⟩))
      · show tt Zi d 123 (27, [some (.inr (.inl 0)), some (.inl i), some (.inl y), none], [], n, D, s, p, c) _
        refine tt_k 2 (S' := (31, [some (.inr (.inl 0)), some (.inl i), some (.inl y), none], [.inl 255, .inl y], n, D, s, p, c)) rfl ?_
        refine tb_le (x := y) (y := 255) rfl rfl (by omega) (fun h8 => ?_) (fun h8 => ?_)
        · show tt Zi d 123 (42, [some (.inr (.inl 0)), some (.inl i), some (.inl y), none], [], n, D, s, p, c) _
          refine tt_k 3 (S' := (47, [some (.inr (.inl 0)), some (.inl i), some (.inl y), none], [.inl i, .inr (.inl 6)], n, D, s, p, c)) rfl ?_
          refine tt_cl (by omega) rfl (g_get6 (Zi := Zi) (q := q) (n := n) (D := D) (s := s) (p := p) (c := c) (by omega) hz (by omega) hS hC hW i (by omega) (show 0 ≤ i ∧ i < (ln D (p 600) : Int) by omega)) ?_
          rintro _ _ ⟨r9, rfl, rfl, b10⟩
          show tt Zi d 123 (50, [some (.inr (.inl 0)), some (.inl i), some (.inl y), none], [.inl r9], n, D, s, p, c) _
          refine tt_k 9 (S' := (63, [some (.inr (.inl 0)), some (.inl i), some (.inl y), some (.inl (mi_xor r9 y))], [.inl (mi_i2b (mi_xor r9 y)), .inl i, .inr (.inl (p 600))], n, D, s, p, c)) rfl ?_
          have e11 := mi_xor_bd r9 y
          have e12 := mi_i2b_bd (mi_xor r9 y)
          refine tt_bsb (i := i) (m := (ln D (p 600))) (lo := -128) (hi := 127) (x := (mi_i2b (mi_xor r9 y))) rfl ((hW).r6.1) (by omega) hC ((hW).r6.2) ⟨rfl, rfl⟩ ?_
          intro c13 hC13
          show tt Zi d 123 (64, [some (.inr (.inl 0)), some (.inl i), some (.inl y), some (.inl (mi_xor r9 y))], [], n, D, s, p, c13) _
          refine tt_k 1 (S' := (65, [some (.inr (.inl 0)), some (.inl i), some (.inl y), some (.inl (mi_xor r9 y))], [.inl (mi_xor r9 y)], n, D, s, p, c13)) rfl ?_
          exact tt_rti rfl rfl (Or.inl ⟨(mi_xor r9 y), rfl, by omega, cW_mono (q := q) (show cW q g (n, D, s, p, c13) from ⟨hS, hC13, hW⟩) (by omega)⟩)
        · show tt Zi d 123 (34, [some (.inr (.inl 0)), some (.inl i), some (.inl y), none], [], n, D, s, p, c) _
          have hn14 := wp_n hW (by omega)
          exact tt_thr (q := (11, 923)) rfl rfl (by decide) (by decide) (by omega) (by omega) (Or.inr (Or.inr ⟨rfl, cW_mono (q := q + 1) ⟨hS, bC_x hC (hW).dz (by decide), wp_x hW⟩ (by omega)⟩))
    · show tt Zi d 123 (15, [some (.inr (.inl 0)), some (.inl i), some (.inl y), none], [], n, D, s, p, c) _
      have hn15 := wp_n hW (by omega)
      exact tt_thr (q := (13, 955)) rfl rfl (by decide) (by decide) (by omega) (by omega) (Or.inr (Or.inl ⟨rfl, cW_mono (q := q + 1) ⟨hS, bC_x hC (hW).dz (by decide), wp_x hW⟩ (by omega)⟩))
set_option maxRecDepth 100000 in
set_option maxHeartbeats 4000000 in
theorem g_turn {g : Nat → Int} {Zi : Nat → Option (Nat × (Nat → Int))} {d n q : Nat} {D : Nat → Nat × Nat} {s : Nat → Int} {p : Nat → Nat} {c : Nat → Nat → Int} (hd : 3 ≤ d) (hz : zk Zi) (hq : q + 6 ≤ 400000) (hS : bS s) (hC : bC D c) (hW : wp q g n D p s)  : tt Zi d 125 (0, [some (.inr (.inl 0))], [], n, D, s, p, c) (fun R H => (∃ r : Int, R = .inl (some (.inl r)) ∧ (0 ≤ r ∧ r ≤ 32768) ∧ cW (q + 1) g H) ∨ (R = .inr 12 ∧ cW (q + 1) g H)) := by
  refine tt_k 4 (S' := (9, [some (.inr (.inl 0))], [.inl 32768, .inl (s 401)], n, D, s, p, c)) rfl ?_
  have b1 : 0 ≤ (s 401) ∧ (s 401) ≤ 262144 := hS 401
  refine tb_le (x := (s 401)) (y := 32768) rfl rfl (by omega) (fun h2 => ?_) (fun h2 => ?_)
  · show tt Zi d 125 (20, [some (.inr (.inl 0))], [], n, D, s, p, c) _
    refine tt_k 4 (S' := (28, [some (.inr (.inl 0))], [.inr (.inl 4), .inr (.inl 6)], n, D, s, p, c)) rfl ?_
    refine tt_cl (by omega) rfl (g_copy (Zi := Zi) (q := q) (n := n) (D := D) (s := s) (p := p) (c := c) (by omega) hz (by omega) hS hC hW (show (s 401) ≤ 32768 by omega)) ?_
    rintro _ _ ⟨n3, D4, s5, p6, c7, rfl, rfl, hS5, hC7, hW8, f9, g10, xe11, k12⟩
    show tt Zi d 125 (31, [some (.inr (.inl 0))], [], n3, D4, s5, p6, c7) _
    replace k12 : (s5 601) = (s 401) := k12
    have b13 : 0 ≤ (s5 601) ∧ (s5 601) ≤ 32768 := hS5 601
    refine tt_k 3 (S' := (38, [some (.inr (.inl 0))], [.inl (s5 601)], n3, D4, s5, p6, c7)) rfl ?_
    exact tt_rti rfl rfl (Or.inl ⟨(s5 601), rfl, by omega, cW_mono (q := q) (show cW q g (n3, D4, s5, p6, c7) from ⟨hS5, hC7, hW8⟩) (by omega)⟩)
  · show tt Zi d 125 (12, [some (.inr (.inl 0))], [], n, D, s, p, c) _
    have hn14 := wp_n hW (by omega)
    exact tt_thr (q := (12, 475)) rfl rfl (by decide) (by decide) (by omega) (by omega) (Or.inr ⟨rfl, cW_mono (q := q + 1) ⟨hS, bC_x hC (hW).dz (by decide), wp_x hW⟩ (by omega)⟩)
set_option maxRecDepth 100000 in
set_option maxHeartbeats 4000000 in
theorem g_place {g : Nat → Int} {Zi : Nat → Option (Nat × (Nat → Int))} {d n q : Nat} {D : Nat → Nat × Nat} {s : Nat → Int} {p : Nat → Nat} {c : Nat → Nat → Int} (hd : 0 ≤ d) (hz : zk Zi) (hq : q + 0 ≤ 400000) (hS : bS s) (hC : bC D c) (hW : wp q g n D p s)  : tt Zi d 91 (0, [some (.inr (.inl 0))], [], n, D, s, p, c) (fun R H => (∃ r : Int, R = .inl (some (.inl r)) ∧ (-1 ≤ r ∧ r ≤ 100000) ∧ cW (q + 1) g H)) := by
  refine tt_k 2 (S' := (4, [some (.inr (.inl 0))], [.inl (s 11)], n, D, s, p, c)) rfl ?_
  have b1 : -1 ≤ (s 11) ∧ (s 11) ≤ 100000 := hS 11
  exact tt_rti rfl rfl ⟨(s 11), rfl, by omega, cW_mono (q := q) (show cW q g (n, D, s, p, c) from ⟨hS, hC, hW⟩) (by omega)⟩
set_option maxRecDepth 100000 in
set_option maxHeartbeats 4000000 in
theorem g_about {g : Nat → Int} {Zi : Nat → Option (Nat × (Nat → Int))} {d n q : Nat} {D : Nat → Nat × Nat} {s : Nat → Int} {p : Nat → Nat} {c : Nat → Nat → Int} (hd : 3 ≤ d) (hz : zk Zi) (hq : q + 6 ≤ 400000) (hS : bS s) (hC : bC D c) (hW : wp q g n D p s) (i : Int) (b_i : -2147483648 ≤ i ∧ i ≤ 2147483647) : tt Zi d 128 (0, [some (.inr (.inl 0)), some (.inl i)], [], n, D, s, p, c) (fun R H => (∃ r : Int, R = .inl (some (.inl r)) ∧ (0 ≤ r ∧ r ≤ 64) ∧ cW (q + 1) g H) ∨ (R = .inr 11 ∧ cW (q + 1) g H) ∨ (R = .inr 12 ∧ cW (q + 1) g H)) := by
  rcases (hW).pp with ⟨hp8, hp9⟩ | ⟨hp8, hp9⟩
  · skip
    refine tt_k 1 (S' := (1, [some (.inr (.inl 0)), some (.inl i)], [.inl i], n, D, s, p, c)) rfl ?_
    refine tz_lt (x := i) rfl rfl (by omega) (fun h1 => ?_) (fun h1 => ?_)
    · show tt Zi d 128 (9, [some (.inr (.inl 0)), some (.inl i)], [], n, D, s, p, c) _
      have hn2 := wp_n hW (by omega)
      exact tt_thr (q := (11, 923)) rfl rfl (by decide) (by decide) (by omega) (by omega) (Or.inr (Or.inl ⟨rfl, cW_mono (q := q + 1) ⟨hS, bC_x hC (hW).dz (by decide), wp_x hW⟩ (by omega)⟩))
    · show tt Zi d 128 (4, [some (.inr (.inl 0)), some (.inl i)], [], n, D, s, p, c) _
      refine tt_k 2 (S' := (6, [some (.inr (.inl 0)), some (.inl i)], [.inl 3, .inl i], n, D, s, p, c)) rfl ?_
      refine tb_le (x := i) (y := 3) rfl rfl (by omega) (fun h3 => ?_) (fun h3 => ?_)
      · show tt Zi d 128 (17, [some (.inr (.inl 0)), some (.inl i)], [], n, D, s, p, c) _
        refine tt_k 2 (S' := (21, [some (.inr (.inl 0)), some (.inl i)], [.inl (s 10)], n, D, s, p, c)) rfl ?_
        have b4 : 0 ≤ (s 10) ∧ (s 10) ≤ 1 := hS 10
        refine tz_ne (x := (s 10)) rfl rfl (by omega) (fun h5 => ?_) (fun h5 => ?_)
        · show tt Zi d 128 (32, [some (.inr (.inl 0)), some (.inl i)], [], n, D, s, p, c) _
          refine tt_k 1 (S' := (33, [some (.inr (.inl 0)), some (.inl i)], [.inl i], n, D, s, p, c)) rfl ?_
          by_cases h6 : i = 0
          · have h7 := h6
            refine tt_tsw (x := i) (off := 27) rfl (by omega) (by omega) (by rw [h6]; rfl) rfl ?_
            show tt Zi d 128 (60, [some (.inr (.inl 0)), some (.inl i)], [], n, D, s, p, c) _
            refine tt_k 2 (S' := (64, [some (.inr (.inl 0)), some (.inl i)], [.inr (.inl (p 8))], n, D, s, p, c)) rfl ?_
            rw [hp8]
            show tt Zi d 128 (64, [some (.inr (.inl 0)), some (.inl i)], [.inr (.inl 25)], n, D, s, p, c) _
            refine tt_k 1 (S' := (67, [some (.inr (.inl 0)), some (.inl i)], [.inl (s 2500)], n, D, s, p, c)) rfl ?_
            have b8 : 0 ≤ (s 2500) ∧ (s 2500) ≤ 64 := hS 2500
            exact tt_rti rfl rfl (Or.inl ⟨(s 2500), rfl, by omega, cW_mono (q := q) (show cW q g (n, D, s, p, c) from ⟨hS, hC, hW⟩) (by omega)⟩)
          by_cases h9 : i = 1
          · have h10 := h9
            refine tt_tsw (x := i) (off := 35) rfl (by omega) (by omega) (by rw [h9]; rfl) rfl ?_
            show tt Zi d 128 (68, [some (.inr (.inl 0)), some (.inl i)], [], n, D, s, p, c) _
            refine tt_k 2 (S' := (72, [some (.inr (.inl 0)), some (.inl i)], [.inr (.inl (p 8))], n, D, s, p, c)) rfl ?_
            rw [hp8]
            show tt Zi d 128 (72, [some (.inr (.inl 0)), some (.inl i)], [.inr (.inl 25)], n, D, s, p, c) _
            refine tt_k 1 (S' := (75, [some (.inr (.inl 0)), some (.inl i)], [.inl (s 2501)], n, D, s, p, c)) rfl ?_
            have b11 : 0 ≤ (s 2501) ∧ (s 2501) ≤ 64 := hS 2501
            exact tt_rti rfl rfl (Or.inl ⟨(s 2501), rfl, by omega, cW_mono (q := q) (show cW q g (n, D, s, p, c) from ⟨hS, hC, hW⟩) (by omega)⟩)
          by_cases h12 : i = 2
          · have h13 := h12
            refine tt_tsw (x := i) (off := 43) rfl (by omega) (by omega) (by rw [h12]; rfl) rfl ?_
            show tt Zi d 128 (76, [some (.inr (.inl 0)), some (.inl i)], [], n, D, s, p, c) _
            refine tt_k 2 (S' := (80, [some (.inr (.inl 0)), some (.inl i)], [.inr (.inl (p 8))], n, D, s, p, c)) rfl ?_
            rw [hp8]
            show tt Zi d 128 (80, [some (.inr (.inl 0)), some (.inl i)], [.inr (.inl 25)], n, D, s, p, c) _
            refine tt_k 1 (S' := (83, [some (.inr (.inl 0)), some (.inl i)], [.inl (s 2502)], n, D, s, p, c)) rfl ?_
            have b14 : 0 ≤ (s 2502) ∧ (s 2502) ≤ 3 := hS 2502
            exact tt_rti rfl rfl (Or.inl ⟨(s 2502), rfl, by omega, cW_mono (q := q) (show cW q g (n, D, s, p, c) from ⟨hS, hC, hW⟩) (by omega)⟩)
          refine tt_tsd (x := i) rfl (by omega) (by omega) rfl ?_
          show tt Zi d 128 (84, [some (.inr (.inl 0)), some (.inl i)], [], n, D, s, p, c) _
          refine tt_k 2 (S' := (88, [some (.inr (.inl 0)), some (.inl i)], [.inr (.inl (p 8))], n, D, s, p, c)) rfl ?_
          rw [hp8]
          show tt Zi d 128 (88, [some (.inr (.inl 0)), some (.inl i)], [.inr (.inl 25)], n, D, s, p, c) _
          refine tt_k 1 (S' := (91, [some (.inr (.inl 0)), some (.inl i)], [.inl (s 2503)], n, D, s, p, c)) rfl ?_
          have b15 : 0 ≤ (s 2503) ∧ (s 2503) ≤ 16 := hS 2503
          exact tt_rti rfl rfl (Or.inl ⟨(s 2503), rfl, by omega, cW_mono (q := q) (show cW q g (n, D, s, p, c) from ⟨hS, hC, hW⟩) (by omega)⟩)
        · show tt Zi d 128 (24, [some (.inr (.inl 0)), some (.inl i)], [], n, D, s, p, c) _
          have hn16 := wp_n hW (by omega)
          exact tt_thr (q := (12, 475)) rfl rfl (by decide) (by decide) (by omega) (by omega) (Or.inr (Or.inr ⟨rfl, cW_mono (q := q + 1) ⟨hS, bC_x hC (hW).dz (by decide), wp_x hW⟩ (by omega)⟩))
      · show tt Zi d 128 (9, [some (.inr (.inl 0)), some (.inl i)], [], n, D, s, p, c) _
        have hn17 := wp_n hW (by omega)
        exact tt_thr (q := (11, 923)) rfl rfl (by decide) (by decide) (by omega) (by omega) (Or.inr (Or.inl ⟨rfl, cW_mono (q := q + 1) ⟨hS, bC_x hC (hW).dz (by decide), wp_x hW⟩ (by omega)⟩))
  · skip
    refine tt_k 1 (S' := (1, [some (.inr (.inl 0)), some (.inl i)], [.inl i], n, D, s, p, c)) rfl ?_
    refine tz_lt (x := i) rfl rfl (by omega) (fun h18 => ?_) (fun h18 => ?_)
    · show tt Zi d 128 (9, [some (.inr (.inl 0)), some (.inl i)], [], n, D, s, p, c) _
      have hn19 := wp_n hW (by omega)
      exact tt_thr (q := (11, 923)) rfl rfl (by decide) (by decide) (by omega) (by omega) (Or.inr (Or.inl ⟨rfl, cW_mono (q := q + 1) ⟨hS, bC_x hC (hW).dz (by decide), wp_x hW⟩ (by omega)⟩))
    · show tt Zi d 128 (4, [some (.inr (.inl 0)), some (.inl i)], [], n, D, s, p, c) _
      refine tt_k 2 (S' := (6, [some (.inr (.inl 0)), some (.inl i)], [.inl 3, .inl i], n, D, s, p, c)) rfl ?_
      refine tb_le (x := i) (y := 3) rfl rfl (by omega) (fun h20 => ?_) (fun h20 => ?_)
      · show tt Zi d 128 (17, [some (.inr (.inl 0)), some (.inl i)], [], n, D, s, p, c) _
        refine tt_k 2 (S' := (21, [some (.inr (.inl 0)), some (.inl i)], [.inl (s 10)], n, D, s, p, c)) rfl ?_
        have b21 : 0 ≤ (s 10) ∧ (s 10) ≤ 1 := hS 10
        refine tz_ne (x := (s 10)) rfl rfl (by omega) (fun h22 => ?_) (fun h22 => ?_)
        · show tt Zi d 128 (32, [some (.inr (.inl 0)), some (.inl i)], [], n, D, s, p, c) _
          refine tt_k 1 (S' := (33, [some (.inr (.inl 0)), some (.inl i)], [.inl i], n, D, s, p, c)) rfl ?_
          by_cases h23 : i = 0
          · have h24 := h23
            refine tt_tsw (x := i) (off := 27) rfl (by omega) (by omega) (by rw [h23]; rfl) rfl ?_
            show tt Zi d 128 (60, [some (.inr (.inl 0)), some (.inl i)], [], n, D, s, p, c) _
            refine tt_k 2 (S' := (64, [some (.inr (.inl 0)), some (.inl i)], [.inr (.inl (p 8))], n, D, s, p, c)) rfl ?_
            rw [hp8]
            show tt Zi d 128 (64, [some (.inr (.inl 0)), some (.inl i)], [.inr (.inl 27)], n, D, s, p, c) _
            refine tt_k 1 (S' := (67, [some (.inr (.inl 0)), some (.inl i)], [.inl (s 2700)], n, D, s, p, c)) rfl ?_
            have b25 : 0 ≤ (s 2700) ∧ (s 2700) ≤ 64 := hS 2700
            exact tt_rti rfl rfl (Or.inl ⟨(s 2700), rfl, by omega, cW_mono (q := q) (show cW q g (n, D, s, p, c) from ⟨hS, hC, hW⟩) (by omega)⟩)
          by_cases h26 : i = 1
          · have h27 := h26
            refine tt_tsw (x := i) (off := 35) rfl (by omega) (by omega) (by rw [h26]; rfl) rfl ?_
            show tt Zi d 128 (68, [some (.inr (.inl 0)), some (.inl i)], [], n, D, s, p, c) _
            refine tt_k 2 (S' := (72, [some (.inr (.inl 0)), some (.inl i)], [.inr (.inl (p 8))], n, D, s, p, c)) rfl ?_
            rw [hp8]
            show tt Zi d 128 (72, [some (.inr (.inl 0)), some (.inl i)], [.inr (.inl 27)], n, D, s, p, c) _
            refine tt_k 1 (S' := (75, [some (.inr (.inl 0)), some (.inl i)], [.inl (s 2701)], n, D, s, p, c)) rfl ?_
            have b28 : 0 ≤ (s 2701) ∧ (s 2701) ≤ 64 := hS 2701
            exact tt_rti rfl rfl (Or.inl ⟨(s 2701), rfl, by omega, cW_mono (q := q) (show cW q g (n, D, s, p, c) from ⟨hS, hC, hW⟩) (by omega)⟩)
          by_cases h29 : i = 2
          · have h30 := h29
            refine tt_tsw (x := i) (off := 43) rfl (by omega) (by omega) (by rw [h29]; rfl) rfl ?_
            show tt Zi d 128 (76, [some (.inr (.inl 0)), some (.inl i)], [], n, D, s, p, c) _
            refine tt_k 2 (S' := (80, [some (.inr (.inl 0)), some (.inl i)], [.inr (.inl (p 8))], n, D, s, p, c)) rfl ?_
            rw [hp8]
            show tt Zi d 128 (80, [some (.inr (.inl 0)), some (.inl i)], [.inr (.inl 27)], n, D, s, p, c) _
            refine tt_k 1 (S' := (83, [some (.inr (.inl 0)), some (.inl i)], [.inl (s 2702)], n, D, s, p, c)) rfl ?_
            have b31 : 0 ≤ (s 2702) ∧ (s 2702) ≤ 3 := hS 2702
            exact tt_rti rfl rfl (Or.inl ⟨(s 2702), rfl, by omega, cW_mono (q := q) (show cW q g (n, D, s, p, c) from ⟨hS, hC, hW⟩) (by omega)⟩)
          refine tt_tsd (x := i) rfl (by omega) (by omega) rfl ?_
          show tt Zi d 128 (84, [some (.inr (.inl 0)), some (.inl i)], [], n, D, s, p, c) _
          refine tt_k 2 (S' := (88, [some (.inr (.inl 0)), some (.inl i)], [.inr (.inl (p 8))], n, D, s, p, c)) rfl ?_
          rw [hp8]
          show tt Zi d 128 (88, [some (.inr (.inl 0)), some (.inl i)], [.inr (.inl 27)], n, D, s, p, c) _
          refine tt_k 1 (S' := (91, [some (.inr (.inl 0)), some (.inl i)], [.inl (s 2703)], n, D, s, p, c)) rfl ?_
          have b32 : 0 ≤ (s 2703) ∧ (s 2703) ≤ 16 := hS 2703
          exact tt_rti rfl rfl (Or.inl ⟨(s 2703), rfl, by omega, cW_mono (q := q) (show cW q g (n, D, s, p, c) from ⟨hS, hC, hW⟩) (by omega)⟩)
        · show tt Zi d 128 (24, [some (.inr (.inl 0)), some (.inl i)], [], n, D, s, p, c) _
          have hn33 := wp_n hW (by omega)
          exact tt_thr (q := (12, 475)) rfl rfl (by decide) (by decide) (by omega) (by omega) (Or.inr (Or.inr ⟨rfl, cW_mono (q := q + 1) ⟨hS, bC_x hC (hW).dz (by decide), wp_x hW⟩ (by omega)⟩))
      · show tt Zi d 128 (9, [some (.inr (.inl 0)), some (.inl i)], [], n, D, s, p, c) _
        have hn34 := wp_n hW (by omega)
        exact tt_thr (q := (11, 923)) rfl rfl (by decide) (by decide) (by omega) (by omega) (Or.inr (Or.inl ⟨rfl, cW_mono (q := q + 1) ⟨hS, bC_x hC (hW).dz (by decide), wp_x hW⟩ (by omega)⟩))
set_option maxRecDepth 100000 in
set_option maxHeartbeats 4000000 in
theorem g_sample {g : Nat → Int} {Zi : Nat → Option (Nat × (Nat → Int))} {d n q : Nat} {D : Nat → Nat × Nat} {s : Nat → Int} {p : Nat → Nat} {c : Nat → Nat → Int} (hd : 3 ≤ d) (hz : zk Zi) (hq : q + 6 ≤ 400000) (hS : bS s) (hC : bC D c) (hW : wp q g n D p s) (a_ : Int) (x : Int) (y : Int) (b_a_ : -2147483648 ≤ a_ ∧ a_ ≤ 2147483647) (b_x : -2147483648 ≤ x ∧ x ≤ 2147483647) (b_y : -2147483648 ≤ y ∧ y ≤ 2147483647) : tt Zi d 130 (0, [some (.inr (.inl 0)), some (.inl a_), some (.inl x), some (.inl y)], [], n, D, s, p, c) (fun R H => (∃ r : Int, R = .inl (some (.inl r)) ∧ (0 ≤ r ∧ r ≤ 65535) ∧ cW (q + 1) g H) ∨ (R = .inr 12 ∧ cW (q + 1) g H) ∨ (R = .inr 13 ∧ cW (q + 1) g H)) := by
  rcases (hW).pp with ⟨hp8, hp9⟩ | ⟨hp8, hp9⟩
  · skip
    refine tt_k 2 (S' := (4, [some (.inr (.inl 0)), some (.inl a_), some (.inl x), some (.inl y)], [.inl (s 10)], n, D, s, p, c)) rfl ?_
    have b1 : 0 ≤ (s 10) ∧ (s 10) ≤ 1 := hS 10
    refine tz_ne (x := (s 10)) rfl rfl (by omega) (fun h2 => ?_) (fun h2 => ?_)
    · show tt Zi d 130 (15, [some (.inr (.inl 0)), some (.inl a_), some (.inl x), some (.inl y)], [], n, D, s, p, c) _
      refine tt_k 2 (S' := (19, [some (.inr (.inl 0)), some (.inl a_), some (.inl x), some (.inl y)], [.inr (.inl (p 8))], n, D, s, p, c)) rfl ?_
      rw [hp8]
      show tt Zi d 130 (19, [some (.inr (.inl 0)), some (.inl a_), some (.inl x), some (.inl y)], [.inr (.inl 25)], n, D, s, p, c) _
      refine tt_k 3 (S' := (22, [some (.inr (.inl 0)), some (.inl a_), some (.inl x), some (.inl y)], [.inl y, .inl x, .inl a_, .inr (.inl 25)], n, D, s, p, c)) rfl ?_
      refine tt_cl (by omega) rfl (g_has25 (Zi := Zi) (q := q) (n := n) (D := D) (s := s) (p := p) (c := c) (by omega) hz (by omega) hS hC hW a_ x y (by omega) (by omega) (by omega)) ?_
      rintro _ _ ⟨r3, rfl, rfl, b4, k5⟩
      show tt Zi d 130 (25, [some (.inr (.inl 0)), some (.inl a_), some (.inl x), some (.inl y)], [.inl r3], n, D, s, p, c) _
      replace k5 : r3 = 1 ↔ ((0 ≤ a_ ∧ a_ < (s 2502)) ∧ (0 ≤ x ∧ x < (s 2500)) ∧ (0 ≤ y ∧ y < (s 2501))) := k5
      have b6 : 0 ≤ (s 2502) ∧ (s 2502) ≤ 3 := hS 2502
      have b7 : 0 ≤ (s 2500) ∧ (s 2500) ≤ 64 := hS 2500
      have b8 : 0 ≤ (s 2501) ∧ (s 2501) ≤ 64 := hS 2501
      refine tz_ne (x := r3) rfl rfl (by omega) (fun h9 => ?_) (fun h9 => ?_)
      · show tt Zi d 130 (36, [some (.inr (.inl 0)), some (.inl a_), some (.inl x), some (.inl y)], [], n, D, s, p, c) _
        refine tt_k 2 (S' := (40, [some (.inr (.inl 0)), some (.inl a_), some (.inl x), some (.inl y)], [.inr (.inl (p 8))], n, D, s, p, c)) rfl ?_
        rw [hp8]
        show tt Zi d 130 (40, [some (.inr (.inl 0)), some (.inl a_), some (.inl x), some (.inl y)], [.inr (.inl 25)], n, D, s, p, c) _
        refine tt_k 3 (S' := (47, [some (.inr (.inl 0)), some (.inl a_), some (.inl x), some (.inl y)], [.inr (.inl (p 8)), .inr (.inl (p 2504))], n, D, s, p, c)) rfl ?_
        rw [hp8]
        show tt Zi d 130 (47, [some (.inr (.inl 0)), some (.inl a_), some (.inl x), some (.inl y)], [.inr (.inl 25), .inr (.inl (p 2504))], n, D, s, p, c) _
        refine tt_k 3 (S' := (50, [some (.inr (.inl 0)), some (.inl a_), some (.inl x), some (.inl y)], [.inl y, .inl x, .inl a_, .inr (.inl 25), .inr (.inl (p 2504))], n, D, s, p, c)) rfl ?_
        have b10 : ln D (p 2504) ≤ 12288 := (hW).p25.2.2
        have b11 := hW.w25
        refine tt_cl (by omega) rfl (g_index25 (Zi := Zi) (q := q) (n := n) (D := D) (s := s) (p := p) (c := c) (by omega) hz (by omega) hS hC hW a_ x y (by omega) (by omega) (by omega) (show a_ < (s 2502) ∧ x < (s 2500) ∧ y < (s 2501) by omega)) ?_
        rintro _ _ ⟨r12, rfl, rfl, b13, k14, k15⟩
        show tt Zi d 130 (53, [some (.inr (.inl 0)), some (.inl a_), some (.inl x), some (.inl y)], [.inl r12, .inr (.inl (p 2504))], n, D, s, p, c) _
        replace k14 : r12 = (a_ * (s 2501) + y) * (s 2500) + x := k14
        replace k15 : r12 + (s 2500) - x ≤ (s 2500) * (s 2501) * (s 2502) := k15
        refine tt_ilb (i := r12) (m := (ln D (p 2504))) (lo := 0) (hi := 65535) rfl ((hW).p25.1) (by omega) hC ((hW).p25.2.1) ?_
        intro v16 b17
        show tt Zi d 130 (54, [some (.inr (.inl 0)), some (.inl a_), some (.inl x), some (.inl y)], [.inl v16], n, D, s, p, c) _
        exact tt_rti rfl rfl (Or.inl ⟨v16, rfl, by omega, cW_mono (q := q) (show cW q g (n, D, s, p, c) from ⟨hS, hC, hW⟩) (by omega)⟩)
      · show tt Zi d 130 (28, [some (.inr (.inl 0)), some (.inl a_), some (.inl x), some (.inl y)], [], n, D, s, p, c) _
        have hn18 := wp_n hW (by omega)
        exact tt_thr (q := (13, 955)) rfl rfl (by decide) (by decide) (by omega) (by omega) (Or.inr (Or.inr ⟨rfl, cW_mono (q := q + 1) ⟨hS, bC_x hC (hW).dz (by decide), wp_x hW⟩ (by omega)⟩))
    · show tt Zi d 130 (7, [some (.inr (.inl 0)), some (.inl a_), some (.inl x), some (.inl y)], [], n, D, s, p, c) _
      have hn19 := wp_n hW (by omega)
      exact tt_thr (q := (12, 475)) rfl rfl (by decide) (by decide) (by omega) (by omega) (Or.inr (Or.inl ⟨rfl, cW_mono (q := q + 1) ⟨hS, bC_x hC (hW).dz (by decide), wp_x hW⟩ (by omega)⟩))
  · skip
    refine tt_k 2 (S' := (4, [some (.inr (.inl 0)), some (.inl a_), some (.inl x), some (.inl y)], [.inl (s 10)], n, D, s, p, c)) rfl ?_
    have b20 : 0 ≤ (s 10) ∧ (s 10) ≤ 1 := hS 10
    refine tz_ne (x := (s 10)) rfl rfl (by omega) (fun h21 => ?_) (fun h21 => ?_)
    · show tt Zi d 130 (15, [some (.inr (.inl 0)), some (.inl a_), some (.inl x), some (.inl y)], [], n, D, s, p, c) _
      refine tt_k 2 (S' := (19, [some (.inr (.inl 0)), some (.inl a_), some (.inl x), some (.inl y)], [.inr (.inl (p 8))], n, D, s, p, c)) rfl ?_
      rw [hp8]
      show tt Zi d 130 (19, [some (.inr (.inl 0)), some (.inl a_), some (.inl x), some (.inl y)], [.inr (.inl 27)], n, D, s, p, c) _
      refine tt_k 3 (S' := (22, [some (.inr (.inl 0)), some (.inl a_), some (.inl x), some (.inl y)], [.inl y, .inl x, .inl a_, .inr (.inl 27)], n, D, s, p, c)) rfl ?_
      refine tt_cl (by omega) rfl (g_has27 (Zi := Zi) (q := q) (n := n) (D := D) (s := s) (p := p) (c := c) (by omega) hz (by omega) hS hC hW a_ x y (by omega) (by omega) (by omega)) ?_
      rintro _ _ ⟨r22, rfl, rfl, b23, k24⟩
      show tt Zi d 130 (25, [some (.inr (.inl 0)), some (.inl a_), some (.inl x), some (.inl y)], [.inl r22], n, D, s, p, c) _
      replace k24 : r22 = 1 ↔ ((0 ≤ a_ ∧ a_ < (s 2702)) ∧ (0 ≤ x ∧ x < (s 2700)) ∧ (0 ≤ y ∧ y < (s 2701))) := k24
      have b25 : 0 ≤ (s 2702) ∧ (s 2702) ≤ 3 := hS 2702
      have b26 : 0 ≤ (s 2700) ∧ (s 2700) ≤ 64 := hS 2700
      have b27 : 0 ≤ (s 2701) ∧ (s 2701) ≤ 64 := hS 2701
      refine tz_ne (x := r22) rfl rfl (by omega) (fun h28 => ?_) (fun h28 => ?_)
      · show tt Zi d 130 (36, [some (.inr (.inl 0)), some (.inl a_), some (.inl x), some (.inl y)], [], n, D, s, p, c) _
        refine tt_k 2 (S' := (40, [some (.inr (.inl 0)), some (.inl a_), some (.inl x), some (.inl y)], [.inr (.inl (p 8))], n, D, s, p, c)) rfl ?_
        rw [hp8]
        show tt Zi d 130 (40, [some (.inr (.inl 0)), some (.inl a_), some (.inl x), some (.inl y)], [.inr (.inl 27)], n, D, s, p, c) _
        refine tt_k 3 (S' := (47, [some (.inr (.inl 0)), some (.inl a_), some (.inl x), some (.inl y)], [.inr (.inl (p 8)), .inr (.inl (p 2704))], n, D, s, p, c)) rfl ?_
        rw [hp8]
        show tt Zi d 130 (47, [some (.inr (.inl 0)), some (.inl a_), some (.inl x), some (.inl y)], [.inr (.inl 27), .inr (.inl (p 2704))], n, D, s, p, c) _
        refine tt_k 3 (S' := (50, [some (.inr (.inl 0)), some (.inl a_), some (.inl x), some (.inl y)], [.inl y, .inl x, .inl a_, .inr (.inl 27), .inr (.inl (p 2704))], n, D, s, p, c)) rfl ?_
        have b29 : ln D (p 2704) ≤ 12288 := (hW).p27.2.2
        have b30 := hW.w27
        refine tt_cl (by omega) rfl (g_index27 (Zi := Zi) (q := q) (n := n) (D := D) (s := s) (p := p) (c := c) (by omega) hz (by omega) hS hC hW a_ x y (by omega) (by omega) (by omega) (show a_ < (s 2702) ∧ x < (s 2700) ∧ y < (s 2701) by omega)) ?_
        rintro _ _ ⟨r31, rfl, rfl, b32, k33, k34⟩
        show tt Zi d 130 (53, [some (.inr (.inl 0)), some (.inl a_), some (.inl x), some (.inl y)], [.inl r31, .inr (.inl (p 2704))], n, D, s, p, c) _
        replace k33 : r31 = (a_ * (s 2701) + y) * (s 2700) + x := k33
        replace k34 : r31 + (s 2700) - x ≤ (s 2700) * (s 2701) * (s 2702) := k34
        refine tt_ilb (i := r31) (m := (ln D (p 2704))) (lo := 0) (hi := 65535) rfl ((hW).p27.1) (by omega) hC ((hW).p27.2.1) ?_
        intro v35 b36
        show tt Zi d 130 (54, [some (.inr (.inl 0)), some (.inl a_), some (.inl x), some (.inl y)], [.inl v35], n, D, s, p, c) _
        exact tt_rti rfl rfl (Or.inl ⟨v35, rfl, by omega, cW_mono (q := q) (show cW q g (n, D, s, p, c) from ⟨hS, hC, hW⟩) (by omega)⟩)
      · show tt Zi d 130 (28, [some (.inr (.inl 0)), some (.inl a_), some (.inl x), some (.inl y)], [], n, D, s, p, c) _
        have hn37 := wp_n hW (by omega)
        exact tt_thr (q := (13, 955)) rfl rfl (by decide) (by decide) (by omega) (by omega) (Or.inr (Or.inr ⟨rfl, cW_mono (q := q + 1) ⟨hS, bC_x hC (hW).dz (by decide), wp_x hW⟩ (by omega)⟩))
    · show tt Zi d 130 (7, [some (.inr (.inl 0)), some (.inl a_), some (.inl x), some (.inl y)], [], n, D, s, p, c) _
      have hn38 := wp_n hW (by omega)
      exact tt_thr (q := (12, 475)) rfl rfl (by decide) (by decide) (by omega) (by omega) (Or.inr (Or.inl ⟨rfl, cW_mono (q := q + 1) ⟨hS, bC_x hC (hW).dz (by decide), wp_x hW⟩ (by omega)⟩))
set_option maxRecDepth 100000 in
set_option maxHeartbeats 4000000 in
theorem g_learned {g : Nat → Int} {Zi : Nat → Option (Nat × (Nat → Int))} {d n q : Nat} {D : Nat → Nat × Nat} {s : Nat → Int} {p : Nat → Nat} {c : Nat → Nat → Int} (hd : 3 ≤ d) (hz : zk Zi) (hq : q + 6 ≤ 400000) (hS : bS s) (hC : bC D c) (hW : wp q g n D p s) (i : Int) (w_ : Int) (b_i : -2147483648 ≤ i ∧ i ≤ 2147483647) (b_w_ : -2147483648 ≤ w_ ∧ w_ ≤ 2147483647) : tt Zi d 132 (0, [some (.inr (.inl 0)), some (.inl i), some (.inl w_)], [], n, D, s, p, c) (fun R H => (∃ r : Int, R = .inl (some (.inl r)) ∧ (-2147483648 ≤ r ∧ r ≤ 2147483647) ∧ cW (q + 1) g H) ∨ (R = .inr 13 ∧ cW (q + 1) g H) ∨ (R = .inr 11 ∧ cW (q + 1) g H)) := by
  refine tt_k 1 (S' := (1, [some (.inr (.inl 0)), some (.inl i), some (.inl w_)], [.inl i], n, D, s, p, c)) rfl ?_
  refine tz_lt (x := i) rfl rfl (by omega) (fun h1 => ?_) (fun h1 => ?_)
  · show tt Zi d 132 (11, [some (.inr (.inl 0)), some (.inl i), some (.inl w_)], [], n, D, s, p, c) _
    have hn2 := wp_n hW (by omega)
    exact tt_thr (q := (13, 955)) rfl rfl (by decide) (by decide) (by omega) (by omega) (Or.inr (Or.inl ⟨rfl, cW_mono (q := q + 1) ⟨hS, bC_x hC (hW).dz (by decide), wp_x hW⟩ (by omega)⟩))
  · show tt Zi d 132 (4, [some (.inr (.inl 0)), some (.inl i), some (.inl w_)], [], n, D, s, p, c) _
    refine tt_k 2 (S' := (8, [some (.inr (.inl 0)), some (.inl i), some (.inl w_)], [.inl 367, .inl i], n, D, s, p, c)) rfl ?_
    refine tb_lt (x := i) (y := 367) rfl rfl (by omega) (fun h3 => ?_) (fun h3 => ?_)
    · show tt Zi d 132 (19, [some (.inr (.inl 0)), some (.inl i), some (.inl w_)], [], n, D, s, p, c) _
      refine tt_k 1 (S' := (20, [some (.inr (.inl 0)), some (.inl i), some (.inl w_)], [.inl w_], n, D, s, p, c)) rfl ?_
      refine tz_lt (x := w_) rfl rfl (by omega) (fun h4 => ?_) (fun h4 => ?_)
      · show tt Zi d 132 (28, [some (.inr (.inl 0)), some (.inl i), some (.inl w_)], [], n, D, s, p, c) _
        have hn5 := wp_n hW (by omega)
        exact tt_thr (q := (11, 923)) rfl rfl (by decide) (by decide) (by omega) (by omega) (Or.inr (Or.inr ⟨rfl, cW_mono (q := q + 1) ⟨hS, bC_x hC (hW).dz (by decide), wp_x hW⟩ (by omega)⟩))
      · show tt Zi d 132 (23, [some (.inr (.inl 0)), some (.inl i), some (.inl w_)], [], n, D, s, p, c) _
        refine tt_k 2 (S' := (25, [some (.inr (.inl 0)), some (.inl i), some (.inl w_)], [.inl 4, .inl w_], n, D, s, p, c)) rfl ?_
        refine tb_lt (x := w_) (y := 4) rfl rfl (by omega) (fun h6 => ?_) (fun h6 => ?_)
        · show tt Zi d 132 (36, [some (.inr (.inl 0)), some (.inl i), some (.inl w_)], [], n, D, s, p, c) _
          refine tt_k 8 (S' := (48, [some (.inr (.inl 0)), some (.inl i), some (.inl w_)], [.inl ((4 * i) + w_), .inr (.inl (p 900))], n, D, s, p, c)) rfl ?_
          refine tt_ilb (i := ((4 * i) + w_)) (m := 1468) (lo := -2147483648) (hi := 2147483647) rfl ((sw_arr (hW).m9 rfl rfl).1) (by omega) hC ((sw_now (hW).m9).1) ?_
          intro v7 b8
          show tt Zi d 132 (49, [some (.inr (.inl 0)), some (.inl i), some (.inl w_)], [.inl v7], n, D, s, p, c) _
          exact tt_rti rfl rfl (Or.inl ⟨v7, rfl, by omega, cW_mono (q := q) (show cW q g (n, D, s, p, c) from ⟨hS, hC, hW⟩) (by omega)⟩)
        · show tt Zi d 132 (28, [some (.inr (.inl 0)), some (.inl i), some (.inl w_)], [], n, D, s, p, c) _
          have hn9 := wp_n hW (by omega)
          exact tt_thr (q := (11, 923)) rfl rfl (by decide) (by decide) (by omega) (by omega) (Or.inr (Or.inr ⟨rfl, cW_mono (q := q + 1) ⟨hS, bC_x hC (hW).dz (by decide), wp_x hW⟩ (by omega)⟩))
    · show tt Zi d 132 (11, [some (.inr (.inl 0)), some (.inl i), some (.inl w_)], [], n, D, s, p, c) _
      have hn10 := wp_n hW (by omega)
      exact tt_thr (q := (13, 955)) rfl rfl (by decide) (by decide) (by omega) (by omega) (Or.inr (Or.inl ⟨rfl, cW_mono (q := q + 1) ⟨hS, bC_x hC (hW).dz (by decide), wp_x hW⟩ (by omega)⟩))
