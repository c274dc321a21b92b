/-! the class's small calls -/
set_option maxRecDepth 100000 in
set_option maxHeartbeats 4000000 in
theorem g_canvas {g : Nat → Int} {Zi : Nat → Option (Nat × (Nat → Int))} {d n q : Nat} {D : Nat → Nat × Nat} {s : Nat → Int} {p : Nat → Nat} {c : Nat → Nat → Int} (hd : 3 ≤ d) (hz : zk Zi) (hq : q + 6 ≤ 400000) (hD : wd n p) (hS : bS s) (hC : bC D c) (hW : wp q g n D p s) (wi : Int) (hi_ : Int) (pl_ : Int) (dp_ : Int) (b_wi : -2147483648 ≤ wi ∧ wi ≤ 2147483647) (b_hi_ : -2147483648 ≤ hi_ ∧ hi_ ≤ 2147483647) (b_pl_ : -2147483648 ≤ pl_ ∧ pl_ ≤ 2147483647) (b_dp_ : -2147483648 ≤ dp_ ∧ dp_ ≤ 2147483647) : tt Zi d 93 (0, [some (.inr (.inl 0)), some (.inl wi), some (.inl hi_), some (.inl pl_), some (.inl dp_)], [], n, D, s, p, c) (fun R H => (R = .inl none ∧ cX (q + 1) (us (us (us (us g 100 wi) 101 hi_) 102 pl_) 103 dp_) s p c [3, 104] [100, 101, 102, 103] H ∧ ((1 ≤ wi ∧ wi ≤ 64) ∧ (1 ≤ hi_ ∧ hi_ ≤ 64) ∧ (pl_ = 1 ∨ pl_ = 3) ∧ (2 ≤ dp_ ∧ dp_ ≤ 16)) ∧ (∀ i : Nat, (i : Int) < wi * hi_ * pl_ → H.2.2.2.2 (H.2.2.2.1 104) i = 0)) ∨ (R = .inr 11 ∧ cX (q + 1) g s p c [] LXR H ∧ ¬ ((1 ≤ wi ∧ wi ≤ 64) ∧ (1 ≤ hi_ ∧ hi_ ≤ 64) ∧ (pl_ = 1 ∨ pl_ = 3) ∧ (2 ≤ dp_ ∧ dp_ ≤ 16)))) := by
  refine tt_k 1 (S' := (1, [some (.inr (.inl 0)), some (.inl wi), some (.inl hi_), some (.inl pl_), some (.inl dp_)], [.inl wi], n, D, s, p, c)) rfl ?_
  refine tt_cl (by omega) rfl (g_isSide (Zi := Zi) (q := q) (n := n) (D := D) (s := s) (p := p) (c := c) (by omega) hz (by omega) hD hS hC hW wi (by omega)) ?_
  rintro _ _ ⟨r1, rfl, rfl, b2, k3⟩
  show tt Zi d 93 (4, [some (.inr (.inl 0)), some (.inl wi), some (.inl hi_), some (.inl pl_), some (.inl dp_)], [.inl r1], n, D, s, p, c) _
  replace k3 : r1 = 1 ↔ (1 ≤ wi ∧ wi ≤ 64) := k3
  refine tz_eq (x := r1) rfl rfl (by omega) (fun h4 => ?_) (fun h4 => ?_)
  · show tt Zi d 93 (29, [some (.inr (.inl 0)), some (.inl wi), some (.inl hi_), some (.inl pl_), some (.inl dp_)], [], n, D, s, p, c) _
    have hn5 := wp_n hW (by omega)
    exact tt_thr (q := (11, 923)) rfl rfl (by decide) (by decide) (by omega) (by omega) (Or.inr ⟨rfl, cX_mono (q := q + 1) ⟨hS, bC_x hC (hW).dz (by decide), wp_x hW, fk_x (fk_rf hD), (show fr s s LXR from fr_rf)⟩ (by omega), by omega⟩)
  · show tt Zi d 93 (7, [some (.inr (.inl 0)), some (.inl wi), some (.inl hi_), some (.inl pl_), some (.inl dp_)], [], n, D, s, p, c) _
    refine tt_k 1 (S' := (8, [some (.inr (.inl 0)), some (.inl wi), some (.inl hi_), some (.inl pl_), some (.inl dp_)], [.inl hi_], n, D, s, p, c)) rfl ?_
    refine tt_cl (by omega) rfl (g_isSide (Zi := Zi) (q := q) (n := n) (D := D) (s := s) (p := p) (c := c) (by omega) hz (by omega) hD hS hC hW hi_ (by omega)) ?_
    rintro _ _ ⟨r6, rfl, rfl, b7, k8⟩
    show tt Zi d 93 (11, [some (.inr (.inl 0)), some (.inl wi), some (.inl hi_), some (.inl pl_), some (.inl dp_)], [.inl r6], n, D, s, p, c) _
    replace k8 : r6 = 1 ↔ (1 ≤ hi_ ∧ hi_ ≤ 64) := k8
    refine tz_eq (x := r6) rfl rfl (by omega) (fun h9 => ?_) (fun h9 => ?_)
    · show tt Zi d 93 (29, [some (.inr (.inl 0)), some (.inl wi), some (.inl hi_), some (.inl pl_), some (.inl dp_)], [], n, D, s, p, c) _
      have hn10 := wp_n hW (by omega)
      exact tt_thr (q := (11, 923)) rfl rfl (by decide) (by decide) (by omega) (by omega) (Or.inr ⟨rfl, cX_mono (q := q + 1) ⟨hS, bC_x hC (hW).dz (by decide), wp_x hW, fk_x (fk_rf hD), (show fr s s LXR from fr_rf)⟩ (by omega), by omega⟩)
    · show tt Zi d 93 (14, [some (.inr (.inl 0)), some (.inl wi), some (.inl hi_), some (.inl pl_), some (.inl dp_)], [], n, D, s, p, c) _
      refine tt_k 1 (S' := (15, [some (.inr (.inl 0)), some (.inl wi), some (.inl hi_), some (.inl pl_), some (.inl dp_)], [.inl pl_], n, D, s, p, c)) rfl ?_
      refine tt_cl (by omega) rfl (g_isPC (Zi := Zi) (q := q) (n := n) (D := D) (s := s) (p := p) (c := c) (by omega) hz (by omega) hD hS hC hW pl_ (by omega)) ?_
      rintro _ _ ⟨r11, rfl, rfl, b12, k13⟩
      show tt Zi d 93 (18, [some (.inr (.inl 0)), some (.inl wi), some (.inl hi_), some (.inl pl_), some (.inl dp_)], [.inl r11], n, D, s, p, c) _
      replace k13 : r11 = 1 ↔ (pl_ = 1 ∨ pl_ = 3) := k13
      refine tz_eq (x := r11) rfl rfl (by omega) (fun h14 => ?_) (fun h14 => ?_)
      · show tt Zi d 93 (29, [some (.inr (.inl 0)), some (.inl wi), some (.inl hi_), some (.inl pl_), some (.inl dp_)], [], n, D, s, p, c) _
        have hn15 := wp_n hW (by omega)
        exact tt_thr (q := (11, 923)) rfl rfl (by decide) (by decide) (by omega) (by omega) (Or.inr ⟨rfl, cX_mono (q := q + 1) ⟨hS, bC_x hC (hW).dz (by decide), wp_x hW, fk_x (fk_rf hD), (show fr s s LXR from fr_rf)⟩ (by omega), by omega⟩)
      · show tt Zi d 93 (21, [some (.inr (.inl 0)), some (.inl wi), some (.inl hi_), some (.inl pl_), some (.inl dp_)], [], n, D, s, p, c) _
        refine tt_k 1 (S' := (23, [some (.inr (.inl 0)), some (.inl wi), some (.inl hi_), some (.inl pl_), some (.inl dp_)], [.inl dp_], n, D, s, p, c)) rfl ?_
        refine tt_cl (by omega) rfl (g_isDepth (Zi := Zi) (q := q) (n := n) (D := D) (s := s) (p := p) (c := c) (by omega) hz (by omega) hD hS hC hW dp_ (by omega)) ?_
        rintro _ _ ⟨r16, rfl, rfl, b17, k18⟩
        show tt Zi d 93 (26, [some (.inr (.inl 0)), some (.inl wi), some (.inl hi_), some (.inl pl_), some (.inl dp_)], [.inl r16], n, D, s, p, c) _
        replace k18 : r16 = 1 ↔ (2 ≤ dp_ ∧ dp_ ≤ 16) := k18
        refine tz_ne (x := r16) rfl rfl (by omega) (fun h19 => ?_) (fun h19 => ?_)
        · show tt Zi d 93 (37, [some (.inr (.inl 0)), some (.inl wi), some (.inl hi_), some (.inl pl_), some (.inl dp_)], [], n, D, s, p, c) _
          refine tt_k 6 (S' := (46, [some (.inr (.inl 0)), some (.inl wi), some (.inl hi_), some (.inl pl_), some (.inl dp_)], [.inl dp_, .inl pl_, .inl hi_, .inl wi, .inr (.inl 1)], n, D, s, p, c)) rfl ?_
          refine tt_cl (by omega) rfl (g_reshape1 (Zi := Zi) (q := q) (n := n) (D := D) (s := s) (p := p) (c := c) (by omega) hz (by omega) hD hS hC hW wi hi_ pl_ dp_ (by omega) (by omega) (by omega) (by omega)) ?_
          rintro _ _ ⟨n20, D21, s22, p23, c24, rfl, rfl, hS22, hC24, hW25, f26, g27, xe28, kf29, k30, k31, k32, k33, k34⟩
          have FK35 : fk p c n20 p23 c24 [3, 104] := fk_tr (fk_rf hD) kf29 (by decide)
          show tt Zi d 93 (49, [some (.inr (.inl 0)), some (.inl wi), some (.inl hi_), some (.inl pl_), some (.inl dp_)], [], n20, D21, s22, p23, c24) _
          replace k30 : (s22 100) = wi := k30
          replace k31 : (s22 101) = hi_ := k31
          replace k32 : (s22 102) = pl_ := k32
          replace k33 : (s22 103) = dp_ := k33
          have b36 : 1 ≤ (s22 100) ∧ (s22 100) ≤ 64 := hS22 100
          have b37 : 1 ≤ (s22 101) ∧ (s22 101) ≤ 64 := hS22 101
          have b38 : 1 ≤ (s22 102) ∧ (s22 102) ≤ 3 := hS22 102
          have b39 : 2 ≤ (s22 103) ∧ (s22 103) ≤ 16 := hS22 103
          refine tt_k 3 (S' := (54, [some (.inr (.inl 0)), some (.inl wi), some (.inl hi_), some (.inl pl_), some (.inl dp_)], [.inl 0, .inr (.inl 3)], n20, D21, s22, p23, c24)) rfl ?_
          refine tt_cl (by omega) rfl (g_fill (A := 3) (m := 5) (s := s22) (p := p23) rfl (by omega) (by rw [(show bC_lo D21 3 = 0 ∧ bC_hi D21 3 = 65535 from ⟨rfl, rfl⟩).1, (show bC_lo D21 3 = 0 ∧ bC_hi D21 3 = 65535 from ⟨rfl, rfl⟩).2]; decide) hC24) ?_
          rintro _ _ ⟨c40, rfl, rfl, hC40, fc40, ec40, zc40⟩
          show tt Zi d 93 (57, [some (.inr (.inl 0)), some (.inl wi), some (.inl hi_), some (.inl pl_), some (.inl dp_)], [], n20, D21, s22, p23, c40) _
          have FK41 : fk p c n20 p23 c40 [3, 104] := fk_st (k := 3) FK35 ec40 (by decide) rfl
          exact tt_rtv rfl rfl (Or.inl ⟨rfl, cX_mono (q := q) (show cX q (us (us (us (us g 100 wi) 101 hi_) 102 pl_) 103 dp_) s p c [3, 104] [100, 101, 102, 103] (n20, D21, s22, p23, c40) from ⟨hS22, hC40, hW25, FK41, (show fr s s22 [100, 101, 102, 103] from (fr_tr fr_rf f26 (by decide)))⟩) (by omega), by omega, by intro i hi; show c40 (p23 104) i = 0; rw [ec40, uc_ne (show (p23 104) ≠ 3 from FK41.1.2 104 (by decide) 3 (by decide) (by decide))]; exact k34 i hi⟩)
        · show tt Zi d 93 (29, [some (.inr (.inl 0)), some (.inl wi), some (.inl hi_), some (.inl pl_), some (.inl dp_)], [], n, D, s, p, c) _
          have hn42 := wp_n hW (by omega)
          exact tt_thr (q := (11, 923)) rfl rfl (by decide) (by decide) (by omega) (by omega) (Or.inr ⟨rfl, cX_mono (q := q + 1) ⟨hS, bC_x hC (hW).dz (by decide), wp_x hW, fk_x (fk_rf hD), (show fr s s LXR from fr_rf)⟩ (by omega), by omega⟩)
set_option maxRecDepth 100000 in
set_option maxHeartbeats 4000000 in
theorem g_at {g : Nat → Int} {Zi : Nat → Option (Nat × (Nat → Int))} {d n q : Nat} {D : Nat → Nat × Nat} {s : Nat → Int} {p : Nat → Nat} {c : Nat → Nat → Int} (hd : 3 ≤ d) (hz : zk Zi) (hq : q + 6 ≤ 400000) (hD : wd n p) (hS : bS s) (hC : bC D c) (hW : wp q g n D p s) (a_ : Int) (x : Int) (y : Int) (b_a_ : -2147483648 ≤ a_ ∧ a_ ≤ 2147483647) (b_x : -2147483648 ≤ x ∧ x ≤ 2147483647) (b_y : -2147483648 ≤ y ∧ y ≤ 2147483647) : tt Zi d 101 (0, [some (.inr (.inl 0)), some (.inl a_), some (.inl x), some (.inl y)], [], n, D, s, p, c) (fun R H => (∃ r : Int, R = .inl (some (.inl r)) ∧ (0 ≤ r ∧ r ≤ 65535) ∧ cX (q + 1) g s p c [] [] H ∧ ((0 ≤ a_ ∧ a_ < s 102) ∧ (0 ≤ x ∧ x < s 100) ∧ (0 ≤ y ∧ y < s 101)) ∧ (r = c (p 104) ((a_ * s 101 + y) * s 100 + x).toNat)) ∨ (R = .inr 13 ∧ cX (q + 1) g s p c [] LXR H ∧ ¬ ((0 ≤ a_ ∧ a_ < s 102) ∧ (0 ≤ x ∧ x < s 100) ∧ (0 ≤ y ∧ y < s 101)))) := by
  have b1 : ln D (p 104) ≤ 12288 := (hW).p1.2.2
  have b2 : 1 ≤ (s 100) ∧ (s 100) ≤ 64 := hS 100
  have b3 : 1 ≤ (s 101) ∧ (s 101) ≤ 64 := hS 101
  have b4 : 1 ≤ (s 102) ∧ (s 102) ≤ 3 := hS 102
  have hw1 := hW.w1
  refine tt_k 5 (S' := (7, [some (.inr (.inl 0)), some (.inl a_), some (.inl x), some (.inl y)], [.inl y, .inl x, .inl a_, .inr (.inl 1)], n, D, s, p, c)) rfl ?_
  refine tt_cl (by omega) rfl (g_has1 (Zi := Zi) (q := q) (n := n) (D := D) (s := s) (p := p) (c := c) (by omega) hz (by omega) hD hS hC hW a_ x y (by omega) (by omega) (by omega)) ?_
  rintro _ _ ⟨r5, rfl, rfl, b6, k7⟩
  show tt Zi d 101 (10, [some (.inr (.inl 0)), some (.inl a_), some (.inl x), some (.inl y)], [.inl r5], n, D, s, p, c) _
  replace k7 : r5 = 1 ↔ ((0 ≤ a_ ∧ a_ < (s 102)) ∧ (0 ≤ x ∧ x < (s 100)) ∧ (0 ≤ y ∧ y < (s 101))) := k7
  refine tz_ne (x := r5) rfl rfl (by omega) (fun h8 => ?_) (fun h8 => ?_)
  · show tt Zi d 101 (21, [some (.inr (.inl 0)), some (.inl a_), some (.inl x), some (.inl y)], [], n, D, s, p, c) _
    refine tt_k 8 (S' := (35, [some (.inr (.inl 0)), some (.inl a_), some (.inl x), some (.inl y)], [.inl y, .inl x, .inl a_, .inr (.inl 1), .inr (.inl (p 104))], n, D, s, p, c)) rfl ?_
    refine tt_cl (by omega) rfl (g_index1 (Zi := Zi) (q := q) (n := n) (D := D) (s := s) (p := p) (c := c) (by omega) hz (by omega) hD hS hC hW a_ x y (by omega) (by omega) (by omega) (show a_ < (s 102) ∧ x < (s 100) ∧ y < (s 101) by omega)) ?_
    rintro _ _ ⟨r9, rfl, rfl, b10, k11, k12⟩
    show tt Zi d 101 (38, [some (.inr (.inl 0)), some (.inl a_), some (.inl x), some (.inl y)], [.inl r9, .inr (.inl (p 104))], n, D, s, p, c) _
    replace k11 : r9 = (a_ * (s 101) + y) * (s 100) + x := k11
    replace k12 : r9 + (s 100) - x ≤ (s 100) * (s 101) * (s 102) := k12
    refine tt_ilb (i := r9) (m := (ln D (p 104))) (lo := 0) (hi := 65535) rfl ((hW).p1.1) (by omega) hC ((hW).p1.2.1) ?_
    intro v13 b14 hvv13
    show tt Zi d 101 (39, [some (.inr (.inl 0)), some (.inl a_), some (.inl x), some (.inl y)], [.inl v13], n, D, s, p, c) _
    exact tt_rti rfl rfl (Or.inl ⟨v13, rfl, by omega, cX_mono (q := q) (show cX q g s p c [] [] (n, D, s, p, c) from ⟨hS, hC, hW, (fk_rf hD), (show fr s s [] from fr_rf)⟩) (by omega), by omega, by rw [← hvv13, k11]⟩)
  · show tt Zi d 101 (13, [some (.inr (.inl 0)), some (.inl a_), some (.inl x), some (.inl y)], [], n, D, s, p, c) _
    have hn15 := wp_n hW (by omega)
    exact tt_thr (q := (13, 955)) rfl rfl (by decide) (by decide) (by omega) (by omega) (Or.inr ⟨rfl, cX_mono (q := q + 1) ⟨hS, bC_x hC (hW).dz (by decide), wp_x hW, fk_x (fk_rf hD), (show fr s s LXR from fr_rf)⟩ (by omega), by omega⟩)
set_option maxRecDepth 100000 in
set_option maxHeartbeats 4000000 in
theorem g_measures {g : Nat → Int} {Zi : Nat → Option (Nat × (Nat → Int))} {d n q : Nat} {D : Nat → Nat × Nat} {s : Nat → Int} {p : Nat → Nat} {c : Nat → Nat → Int} (hd : 3 ≤ d) (hz : zk Zi) (hq : q + 6 ≤ 400000) (hD : wd n p) (hS : bS s) (hC : bC D c) (hW : wp q g n D p s) (a1 : Int) (a2 : Int) (a3 : Int) (a4 : Int) (a5 : Int) (b_a1 : -2147483648 ≤ a1 ∧ a1 ≤ 2147483647) (b_a2 : -2147483648 ≤ a2 ∧ a2 ≤ 2147483647) (b_a3 : -2147483648 ≤ a3 ∧ a3 ≤ 2147483647) (b_a4 : -2147483648 ≤ a4 ∧ a4 ≤ 2147483647) (b_a5 : -2147483648 ≤ a5 ∧ a5 ≤ 2147483647) : tt Zi d 103 (0, [some (.inr (.inl 0)), some (.inl a1), some (.inl a2), some (.inl a3), some (.inl a4), some (.inl a5)], [], n, D, s, p, c) (fun R H => (R = .inl none ∧ cX (q + 1) g s p c [3] [] H ∧ ((0 ≤ a1 ∧ a1 ≤ 65535) ∧ (0 ≤ a2 ∧ a2 ≤ 65535) ∧ (0 ≤ a3 ∧ a3 ≤ 65535) ∧ (0 ≤ a4 ∧ a4 ≤ 65535) ∧ (0 ≤ a5 ∧ a5 ≤ 65535) ∧ a1 ≤ mi_shl 1 (s 103) - 1)) ∨ (R = .inr 11 ∧ cX (q + 1) g s p c [] LXR H ∧ ¬ ((0 ≤ a1 ∧ a1 ≤ 65535) ∧ (0 ≤ a2 ∧ a2 ≤ 65535) ∧ (0 ≤ a3 ∧ a3 ≤ 65535) ∧ (0 ≤ a4 ∧ a4 ≤ 65535) ∧ (0 ≤ a5 ∧ a5 ≤ 65535) ∧ a1 ≤ mi_shl 1 (s 103) - 1))) := by
  refine tt_k 1 (S' := (1, [some (.inr (.inl 0)), some (.inl a1), some (.inl a2), some (.inl a3), some (.inl a4), some (.inl a5)], [.inl a1], n, D, s, p, c)) rfl ?_
  refine tt_cl (by omega) rfl (g_isNumber (Zi := Zi) (q := q) (n := n) (D := D) (s := s) (p := p) (c := c) (by omega) hz (by omega) hD hS hC hW a1 (by omega)) ?_
  rintro _ _ ⟨r1, rfl, rfl, b2, k3⟩
  show tt Zi d 103 (4, [some (.inr (.inl 0)), some (.inl a1), some (.inl a2), some (.inl a3), some (.inl a4), some (.inl a5)], [.inl r1], n, D, s, p, c) _
  replace k3 : r1 = 1 ↔ (0 ≤ a1 ∧ a1 ≤ 65535) := k3
  refine tz_eq (x := r1) rfl rfl (by omega) (fun h4 => ?_) (fun h4 => ?_)
  · show tt Zi d 103 (48, [some (.inr (.inl 0)), some (.inl a1), some (.inl a2), some (.inl a3), some (.inl a4), some (.inl a5)], [], n, D, s, p, c) _
    have hn5 := wp_n hW (by omega)
    exact tt_thr (q := (11, 923)) rfl rfl (by decide) (by decide) (by omega) (by omega) (Or.inr ⟨rfl, cX_mono (q := q + 1) ⟨hS, bC_x hC (hW).dz (by decide), wp_x hW, fk_x (fk_rf hD), (show fr s s LXR from fr_rf)⟩ (by omega), by omega⟩)
  · show tt Zi d 103 (7, [some (.inr (.inl 0)), some (.inl a1), some (.inl a2), some (.inl a3), some (.inl a4), some (.inl a5)], [], n, D, s, p, c) _
    refine tt_k 1 (S' := (8, [some (.inr (.inl 0)), some (.inl a1), some (.inl a2), some (.inl a3), some (.inl a4), some (.inl a5)], [.inl a2], n, D, s, p, c)) rfl ?_
    refine tt_cl (by omega) rfl (g_isNumber (Zi := Zi) (q := q) (n := n) (D := D) (s := s) (p := p) (c := c) (by omega) hz (by omega) hD hS hC hW a2 (by omega)) ?_
    rintro _ _ ⟨r6, rfl, rfl, b7, k8⟩
    show tt Zi d 103 (11, [some (.inr (.inl 0)), some (.inl a1), some (.inl a2), some (.inl a3), some (.inl a4), some (.inl a5)], [.inl r6], n, D, s, p, c) _
    replace k8 : r6 = 1 ↔ (0 ≤ a2 ∧ a2 ≤ 65535) := k8
    refine tz_eq (x := r6) rfl rfl (by omega) (fun h9 => ?_) (fun h9 => ?_)
    · show tt Zi d 103 (48, [some (.inr (.inl 0)), some (.inl a1), some (.inl a2), some (.inl a3), some (.inl a4), some (.inl a5)], [], n, D, s, p, c) _
      have hn10 := wp_n hW (by omega)
      exact tt_thr (q := (11, 923)) rfl rfl (by decide) (by decide) (by omega) (by omega) (Or.inr ⟨rfl, cX_mono (q := q + 1) ⟨hS, bC_x hC (hW).dz (by decide), wp_x hW, fk_x (fk_rf hD), (show fr s s LXR from fr_rf)⟩ (by omega), by omega⟩)
    · show tt Zi d 103 (14, [some (.inr (.inl 0)), some (.inl a1), some (.inl a2), some (.inl a3), some (.inl a4), some (.inl a5)], [], n, D, s, p, c) _
      refine tt_k 1 (S' := (15, [some (.inr (.inl 0)), some (.inl a1), some (.inl a2), some (.inl a3), some (.inl a4), some (.inl a5)], [.inl a3], n, D, s, p, c)) rfl ?_
      refine tt_cl (by omega) rfl (g_isNumber (Zi := Zi) (q := q) (n := n) (D := D) (s := s) (p := p) (c := c) (by omega) hz (by omega) hD hS hC hW a3 (by omega)) ?_
      rintro _ _ ⟨r11, rfl, rfl, b12, k13⟩
      show tt Zi d 103 (18, [some (.inr (.inl 0)), some (.inl a1), some (.inl a2), some (.inl a3), some (.inl a4), some (.inl a5)], [.inl r11], n, D, s, p, c) _
      replace k13 : r11 = 1 ↔ (0 ≤ a3 ∧ a3 ≤ 65535) := k13
      refine tz_eq (x := r11) rfl rfl (by omega) (fun h14 => ?_) (fun h14 => ?_)
      · show tt Zi d 103 (48, [some (.inr (.inl 0)), some (.inl a1), some (.inl a2), some (.inl a3), some (.inl a4), some (.inl a5)], [], n, D, s, p, c) _
        have hn15 := wp_n hW (by omega)
        exact tt_thr (q := (11, 923)) rfl rfl (by decide) (by decide) (by omega) (by omega) (Or.inr ⟨rfl, cX_mono (q := q + 1) ⟨hS, bC_x hC (hW).dz (by decide), wp_x hW, fk_x (fk_rf hD), (show fr s s LXR from fr_rf)⟩ (by omega), by omega⟩)
      · show tt Zi d 103 (21, [some (.inr (.inl 0)), some (.inl a1), some (.inl a2), some (.inl a3), some (.inl a4), some (.inl a5)], [], n, D, s, p, c) _
        refine tt_k 1 (S' := (23, [some (.inr (.inl 0)), some (.inl a1), some (.inl a2), some (.inl a3), some (.inl a4), some (.inl a5)], [.inl a4], n, D, s, p, c)) rfl ?_
        refine tt_cl (by omega) rfl (g_isNumber (Zi := Zi) (q := q) (n := n) (D := D) (s := s) (p := p) (c := c) (by omega) hz (by omega) hD hS hC hW a4 (by omega)) ?_
        rintro _ _ ⟨r16, rfl, rfl, b17, k18⟩
        show tt Zi d 103 (26, [some (.inr (.inl 0)), some (.inl a1), some (.inl a2), some (.inl a3), some (.inl a4), some (.inl a5)], [.inl r16], n, D, s, p, c) _
        replace k18 : r16 = 1 ↔ (0 ≤ a4 ∧ a4 ≤ 65535) := k18
        refine tz_eq (x := r16) rfl rfl (by omega) (fun h19 => ?_) (fun h19 => ?_)
        · show tt Zi d 103 (48, [some (.inr (.inl 0)), some (.inl a1), some (.inl a2), some (.inl a3), some (.inl a4), some (.inl a5)], [], n, D, s, p, c) _
          have hn20 := wp_n hW (by omega)
          exact tt_thr (q := (11, 923)) rfl rfl (by decide) (by decide) (by omega) (by omega) (Or.inr ⟨rfl, cX_mono (q := q + 1) ⟨hS, bC_x hC (hW).dz (by decide), wp_x hW, fk_x (fk_rf hD), (show fr s s LXR from fr_rf)⟩ (by omega), by omega⟩)
        · show tt Zi d 103 (29, [some (.inr (.inl 0)), some (.inl a1), some (.inl a2), some (.inl a3), some (.inl a4), some (.inl a5)], [], n, D, s, p, c) _
          refine tt_k 1 (S' := (31, [some (.inr (.inl 0)), some (.inl a1), some (.inl a2), some (.inl a3), some (.inl a4), some (.inl a5)], [.inl a5], n, D, s, p, c)) rfl ?_
          refine tt_cl (by omega) rfl (g_isNumber (Zi := Zi) (q := q) (n := n) (D := D) (s := s) (p := p) (c := c) (by omega) hz (by omega) hD hS hC hW a5 (by omega)) ?_
          rintro _ _ ⟨r21, rfl, rfl, b22, k23⟩
          show tt Zi d 103 (34, [some (.inr (.inl 0)), some (.inl a1), some (.inl a2), some (.inl a3), some (.inl a4), some (.inl a5)], [.inl r21], n, D, s, p, c) _
          replace k23 : r21 = 1 ↔ (0 ≤ a5 ∧ a5 ≤ 65535) := k23
          refine tz_eq (x := r21) rfl rfl (by omega) (fun h24 => ?_) (fun h24 => ?_)
          · show tt Zi d 103 (48, [some (.inr (.inl 0)), some (.inl a1), some (.inl a2), some (.inl a3), some (.inl a4), some (.inl a5)], [], n, D, s, p, c) _
            have hn25 := wp_n hW (by omega)
            exact tt_thr (q := (11, 923)) rfl rfl (by decide) (by decide) (by omega) (by omega) (Or.inr ⟨rfl, cX_mono (q := q + 1) ⟨hS, bC_x hC (hW).dz (by decide), wp_x hW, fk_x (fk_rf hD), (show fr s s LXR from fr_rf)⟩ (by omega), by omega⟩)
          · show tt Zi d 103 (37, [some (.inr (.inl 0)), some (.inl a1), some (.inl a2), some (.inl a3), some (.inl a4), some (.inl a5)], [], n, D, s, p, c) _
            refine tt_k 3 (S' := (42, [some (.inr (.inl 0)), some (.inl a1), some (.inl a2), some (.inl a3), some (.inl a4), some (.inl a5)], [.inr (.inl 1), .inl a1], n, D, s, p, c)) rfl ?_
            refine tt_cl (by omega) rfl (g_greatest1 (Zi := Zi) (q := q) (n := n) (D := D) (s := s) (p := p) (c := c) (by omega) hz (by omega) hD hS hC hW ) ?_
            rintro _ _ ⟨r26, rfl, rfl, b27, k28⟩
            show tt Zi d 103 (45, [some (.inr (.inl 0)), some (.inl a1), some (.inl a2), some (.inl a3), some (.inl a4), some (.inl a5)], [.inl r26, .inl a1], n, D, s, p, c) _
            replace k28 : r26 = mi_shl 1 ((s 103)) - 1 := k28
            have b29 : 2 ≤ (s 103) ∧ (s 103) ≤ 16 := hS 103
            refine tb_le (x := a1) (y := r26) rfl rfl (by omega) (fun h30 => ?_) (fun h30 => ?_)
            · show tt Zi d 103 (56, [some (.inr (.inl 0)), some (.inl a1), some (.inl a2), some (.inl a3), some (.inl a4), some (.inl a5)], [], n, D, s, p, c) _
              refine tt_k 4 (S' := (62, [some (.inr (.inl 0)), some (.inl a1), some (.inl a2), some (.inl a3), some (.inl a4), some (.inl a5)], [.inl a1, .inl 0, .inr (.inl 3)], n, D, s, p, c)) rfl ?_
              refine tt_isb (i := 0) (m := 5) (lo := 0) (hi := 65535) (x := a1) rfl rfl (by omega) hC ⟨rfl, rfl⟩ (by omega) ?_
              intro c31 hC31 ec31
              show tt Zi d 103 (63, [some (.inr (.inl 0)), some (.inl a1), some (.inl a2), some (.inl a3), some (.inl a4), some (.inl a5)], [], n, D, s, p, c31) _
              have FK32 : fk p c n p c31 [3] := fk_st (k := 3) (fk_rf hD) ec31 (by decide) rfl
              refine tt_k 4 (S' := (69, [some (.inr (.inl 0)), some (.inl a1), some (.inl a2), some (.inl a3), some (.inl a4), some (.inl a5)], [.inl a2, .inl 1, .inr (.inl 3)], n, D, s, p, c31)) rfl ?_
              refine tt_isb (i := 1) (m := 5) (lo := 0) (hi := 65535) (x := a2) rfl rfl (by omega) hC31 ⟨rfl, rfl⟩ (by omega) ?_
              intro c33 hC33 ec33
              show tt Zi d 103 (70, [some (.inr (.inl 0)), some (.inl a1), some (.inl a2), some (.inl a3), some (.inl a4), some (.inl a5)], [], n, D, s, p, c33) _
              have FK34 : fk p c n p c33 [3] := fk_st (k := 3) FK32 ec33 (by decide) rfl
              refine tt_k 4 (S' := (76, [some (.inr (.inl 0)), some (.inl a1), some (.inl a2), some (.inl a3), some (.inl a4), some (.inl a5)], [.inl a3, .inl 2, .inr (.inl 3)], n, D, s, p, c33)) rfl ?_
              refine tt_isb (i := 2) (m := 5) (lo := 0) (hi := 65535) (x := a3) rfl rfl (by omega) hC33 ⟨rfl, rfl⟩ (by omega) ?_
              intro c35 hC35 ec35
              show tt Zi d 103 (77, [some (.inr (.inl 0)), some (.inl a1), some (.inl a2), some (.inl a3), some (.inl a4), some (.inl a5)], [], n, D, s, p, c35) _
              have FK36 : fk p c n p c35 [3] := fk_st (k := 3) FK34 ec35 (by decide) rfl
              refine tt_k 4 (S' := (84, [some (.inr (.inl 0)), some (.inl a1), some (.inl a2), some (.inl a3), some (.inl a4), some (.inl a5)], [.inl a4, .inl 3, .inr (.inl 3)], n, D, s, p, c35)) rfl ?_
              refine tt_isb (i := 3) (m := 5) (lo := 0) (hi := 65535) (x := a4) rfl rfl (by omega) hC35 ⟨rfl, rfl⟩ (by omega) ?_
              intro c37 hC37 ec37
              show tt Zi d 103 (85, [some (.inr (.inl 0)), some (.inl a1), some (.inl a2), some (.inl a3), some (.inl a4), some (.inl a5)], [], n, D, s, p, c37) _
              have FK38 : fk p c n p c37 [3] := fk_st (k := 3) FK36 ec37 (by decide) rfl
              refine tt_k 4 (S' := (92, [some (.inr (.inl 0)), some (.inl a1), some (.inl a2), some (.inl a3), some (.inl a4), some (.inl a5)], [.inl a5, .inl 4, .inr (.inl 3)], n, D, s, p, c37)) rfl ?_
              refine tt_isb (i := 4) (m := 5) (lo := 0) (hi := 65535) (x := a5) rfl rfl (by omega) hC37 ⟨rfl, rfl⟩ (by omega) ?_
              intro c39 hC39 ec39
              show tt Zi d 103 (93, [some (.inr (.inl 0)), some (.inl a1), some (.inl a2), some (.inl a3), some (.inl a4), some (.inl a5)], [], n, D, s, p, c39) _
              have FK40 : fk p c n p c39 [3] := fk_st (k := 3) FK38 ec39 (by decide) rfl
              exact tt_rtv rfl rfl (Or.inl ⟨rfl, cX_mono (q := q) (show cX q g s p c [3] [] (n, D, s, p, c39) from ⟨hS, hC39, hW, FK40, (show fr s s [] from fr_rf)⟩) (by omega), by omega⟩)
            · show tt Zi d 103 (48, [some (.inr (.inl 0)), some (.inl a1), some (.inl a2), some (.inl a3), some (.inl a4), some (.inl a5)], [], n, D, s, p, c) _
              have hn41 := wp_n hW (by omega)
              exact tt_thr (q := (11, 923)) rfl rfl (by decide) (by decide) (by omega) (by omega) (Or.inr ⟨rfl, cX_mono (q := q + 1) ⟨hS, bC_x hC (hW).dz (by decide), wp_x hW, fk_x (fk_rf hD), (show fr s s LXR from fr_rf)⟩ (by omega), by omega⟩)
set_option maxRecDepth 100000 in
set_option maxHeartbeats 4000000 in
theorem g_size {g : Nat → Int} {Zi : Nat → Option (Nat × (Nat → Int))} {d n q : Nat} {D : Nat → Nat × Nat} {s : Nat → Int} {p : Nat → Nat} {c : Nat → Nat → Int} (hd : 0 ≤ d) (hz : zk Zi) (hq : q + 0 ≤ 400000) (hD : wd n p) (hS : bS s) (hC : bC D c) (hW : wp q g n D p s)  : tt Zi d 14 (0, [some (.inr (.inl 0))], [], n, D, s, p, c) (fun R H => (∃ r : Int, R = .inl (some (.inl r)) ∧ (0 ≤ r ∧ r ≤ 262144) ∧ cX (q + 1) g s p c [] [] H)) := by
  refine tt_k 3 (S' := (7, [some (.inr (.inl 0))], [.inl (s 401)], n, D, s, p, c)) rfl ?_
  have b1 : 0 ≤ (s 401) ∧ (s 401) ≤ 262144 := hS 401
  exact tt_rti rfl rfl ⟨(s 401), rfl, by omega, cX_mono (q := q) (show cX q g s p c [] [] (n, D, s, p, c) from ⟨hS, hC, hW, (fk_rf hD), (show fr s s [] from fr_rf)⟩) (by omega)⟩
set_option maxRecDepth 100000 in
set_option maxHeartbeats 4000000 in
theorem g_out {g : Nat → Int} {Zi : Nat → Option (Nat × (Nat → Int))} {d n q : Nat} {D : Nat → Nat × Nat} {s : Nat → Int} {p : Nat → Nat} {c : Nat → Nat → Int} (hd : 3 ≤ d) (hz : zk Zi) (hq : q + 6 ≤ 400000) (hD : wd n p) (hS : bS s) (hC : bC D c) (hW : wp q g n D p s) (i : Int) (b_i : -2147483648 ≤ i ∧ i ≤ 2147483647) : tt Zi d 116 (0, [some (.inr (.inl 0)), some (.inl i)], [], n, D, s, p, c) (fun R H => (∃ r : Int, R = .inl (some (.inl r)) ∧ (0 ≤ r ∧ r ≤ 255) ∧ cX (q + 1) g s p c [] [] H) ∨ (R = .inr 13 ∧ cX (q + 1) g s p c [] LXR H)) := by
  have b1 := wp_l4 hW
  have hc4 := hW.c4
  refine tt_k 1 (S' := (1, [some (.inr (.inl 0)), some (.inl i)], [.inl i], n, D, s, p, c)) rfl ?_
  refine tz_lt (x := i) rfl rfl (by omega) (fun h2 => ?_) (fun h2 => ?_)
  · show tt Zi d 116 (15, [some (.inr (.inl 0)), some (.inl i)], [], n, D, s, p, c) _
    have hn3 := wp_n hW (by omega)
    exact tt_thr (q := (13, 955)) rfl rfl (by decide) (by decide) (by omega) (by omega) (Or.inr ⟨rfl, cX_mono (q := q + 1) ⟨hS, bC_x hC (hW).dz (by decide), wp_x hW, fk_x (fk_rf hD), (show fr s s LXR from fr_rf)⟩ (by omega)⟩)
  · show tt Zi d 116 (4, [some (.inr (.inl 0)), some (.inl i)], [], n, D, s, p, c) _
    refine tt_k 4 (S' := (12, [some (.inr (.inl 0)), some (.inl i)], [.inl (s 401), .inl i], n, D, s, p, c)) rfl ?_
    have b4 : 0 ≤ (s 401) ∧ (s 401) ≤ 262144 := hS 401
    refine tb_lt (x := i) (y := (s 401)) rfl rfl (by omega) (fun h5 => ?_) (fun h5 => ?_)
    · show tt Zi d 116 (23, [some (.inr (.inl 0)), some (.inl i)], [], n, D, s, p, c) _
      refine tt_k 3 (S' := (28, [some (.inr (.inl 0)), some (.inl i)], [.inl i, .inr (.inl 4)], n, D, s, p, c)) rfl ?_
      refine tt_cl (by omega) rfl (g_get4 (Zi := Zi) (q := q) (n := n) (D := D) (s := s) (p := p) (c := c) (by omega) hz (by omega) hD hS hC hW i (by omega) (show 0 ≤ i ∧ i < (ln D (p 400) : Int) by omega)) ?_
      rintro _ _ ⟨r6, rfl, rfl, b7⟩
      show tt Zi d 116 (31, [some (.inr (.inl 0)), some (.inl i)], [.inl r6], n, D, s, p, c) _
      exact tt_rti rfl rfl (Or.inl ⟨r6, rfl, by omega, cX_mono (q := q) (show cX q g s p c [] [] (n, D, s, p, c) from ⟨hS, hC, hW, (fk_rf hD), (show fr s s [] from fr_rf)⟩) (by omega)⟩)
    · show tt Zi d 116 (15, [some (.inr (.inl 0)), some (.inl i)], [], n, D, s, p, c) _
      have hn8 := wp_n hW (by omega)
      exact tt_thr (q := (13, 955)) rfl rfl (by decide) (by decide) (by omega) (by omega) (Or.inr ⟨rfl, cX_mono (q := q + 1) ⟨hS, bC_x hC (hW).dz (by decide), wp_x hW, fk_x (fk_rf hD), (show fr s s LXR from fr_rf)⟩ (by omega)⟩)
set_option maxRecDepth 100000 in
set_option maxHeartbeats 4000000 in
theorem g_feed {g : Nat → Int} {Zi : Nat → Option (Nat × (Nat → Int))} {d n q : Nat} {D : Nat → Nat × Nat} {s : Nat → Int} {p : Nat → Nat} {c : Nat → Nat → Int} (hd : 4 ≤ d) (hz : zk Zi) (hq : q + 8 ≤ 400000) (hD : wd n p) (hS : bS s) (hC : bC D c) (hW : wp q g n D p s) (a1 : Int) (a2 : Int) (a3 : Int) (a4 : Int) (a5 : Int) (b_a1 : -2147483648 ≤ a1 ∧ a1 ≤ 2147483647) (b_a2 : -2147483648 ≤ a2 ∧ a2 ≤ 2147483647) (b_a3 : -2147483648 ≤ a3 ∧ a3 ≤ 2147483647) (b_a4 : -2147483648 ≤ a4 ∧ a4 ≤ 2147483647) (b_a5 : -2147483648 ≤ a5 ∧ a5 ≤ 2147483647) : tt Zi d 118 (0, [some (.inr (.inl 0)), some (.inl a1), some (.inl a2), some (.inl a3), some (.inl a4), some (.inl a5)], [], n, D, s, p, c) (fun R H => (∃ r : Int, R = .inl (some (.inl r)) ∧ (0 ≤ r ∧ r ≤ 32768) ∧ cX (q + 1) g s p c [600] [601] H) ∨ (R = .inr 12 ∧ cX (q + 1) g s p c [] LXR H)) := by
  refine tt_k 6 (S' := (12, [some (.inr (.inl 0)), some (.inl a1), some (.inl a2), some (.inl a3), some (.inl a4), some (.inl a5)], [.inl 32768, .inl ((s 601) + 20)], n, D, s, p, c)) rfl ?_
  have b1 : 0 ≤ (s 601) ∧ (s 601) ≤ 32768 := hS 601
  refine tb_le (x := ((s 601) + 20)) (y := 32768) rfl rfl (by omega) (fun h2 => ?_) (fun h2 => ?_)
  · show tt Zi d 118 (23, [some (.inr (.inl 0)), some (.inl a1), some (.inl a2), some (.inl a3), some (.inl a4), some (.inl a5)], [], n, D, s, p, c) _
    refine tt_k 3 (S' := (28, [some (.inr (.inl 0)), some (.inl a1), some (.inl a2), some (.inl a3), some (.inl a4), some (.inl a5)], [.inl a1, .inr (.inl 6)], n, D, s, p, c)) rfl ?_
    refine tt_cl (by omega) rfl (g_addFour6 (Zi := Zi) (q := q) (n := n) (D := D) (s := s) (p := p) (c := c) (by omega) hz (by omega) hD hS hC hW a1 (by omega) (show (s 601) ≤ 32764 by omega)) ?_
    rintro _ _ ⟨n3, D4, s5, p6, c7, rfl, rfl, hS5, hC7, hW8, f9, g10, xe11, kf12, k13⟩
    have FK14 : fk p c n3 p6 c7 [600] := fk_tr (fk_rf hD) kf12 (by decide)
    show tt Zi d 118 (31, [some (.inr (.inl 0)), some (.inl a1), some (.inl a2), some (.inl a3), some (.inl a4), some (.inl a5)], [], n3, D4, s5, p6, c7) _
    replace k13 : (s5 601) = (s 601) + 4 := k13
    have b15 : 0 ≤ (s5 601) ∧ (s5 601) ≤ 32768 := hS5 601
    refine tt_k 3 (S' := (36, [some (.inr (.inl 0)), some (.inl a1), some (.inl a2), some (.inl a3), some (.inl a4), some (.inl a5)], [.inl a2, .inr (.inl 6)], n3, D4, s5, p6, c7)) rfl ?_
    refine tt_cl (by omega) rfl (g_addFour6 (Zi := Zi) (q := q) (n := n3) (D := D4) (s := s5) (p := p6) (c := c7) (by omega) hz (by omega) FK14.1 hS5 hC7 hW8 a2 (by omega) (show (s5 601) ≤ 32764 by omega)) ?_
    rintro _ _ ⟨n16, D17, s18, p19, c20, rfl, rfl, hS18, hC20, hW21, f22, g23, xe24, kf25, k26⟩
    have FK27 : fk p c n16 p19 c20 [600] := fk_tr FK14 kf25 (by decide)
    show tt Zi d 118 (39, [some (.inr (.inl 0)), some (.inl a1), some (.inl a2), some (.inl a3), some (.inl a4), some (.inl a5)], [], n16, D17, s18, p19, c20) _
    replace k26 : (s18 601) = (s5 601) + 4 := k26
    have b28 : 0 ≤ (s18 601) ∧ (s18 601) ≤ 32768 := hS18 601
    refine tt_k 3 (S' := (44, [some (.inr (.inl 0)), some (.inl a1), some (.inl a2), some (.inl a3), some (.inl a4), some (.inl a5)], [.inl a3, .inr (.inl 6)], n16, D17, s18, p19, c20)) rfl ?_
    refine tt_cl (by omega) rfl (g_addFour6 (Zi := Zi) (q := q) (n := n16) (D := D17) (s := s18) (p := p19) (c := c20) (by omega) hz (by omega) FK27.1 hS18 hC20 hW21 a3 (by omega) (show (s18 601) ≤ 32764 by omega)) ?_
    rintro _ _ ⟨n29, D30, s31, p32, c33, rfl, rfl, hS31, hC33, hW34, f35, g36, xe37, kf38, k39⟩
    have FK40 : fk p c n29 p32 c33 [600] := fk_tr FK27 kf38 (by decide)
    show tt Zi d 118 (47, [some (.inr (.inl 0)), some (.inl a1), some (.inl a2), some (.inl a3), some (.inl a4), some (.inl a5)], [], n29, D30, s31, p32, c33) _
    replace k39 : (s31 601) = (s18 601) + 4 := k39
    have b41 : 0 ≤ (s31 601) ∧ (s31 601) ≤ 32768 := hS31 601
    refine tt_k 3 (S' := (53, [some (.inr (.inl 0)), some (.inl a1), some (.inl a2), some (.inl a3), some (.inl a4), some (.inl a5)], [.inl a4, .inr (.inl 6)], n29, D30, s31, p32, c33)) rfl ?_
    refine tt_cl (by omega) rfl (g_addFour6 (Zi := Zi) (q := q) (n := n29) (D := D30) (s := s31) (p := p32) (c := c33) (by omega) hz (by omega) FK40.1 hS31 hC33 hW34 a4 (by omega) (show (s31 601) ≤ 32764 by omega)) ?_
    rintro _ _ ⟨n42, D43, s44, p45, c46, rfl, rfl, hS44, hC46, hW47, f48, g49, xe50, kf51, k52⟩
    have FK53 : fk p c n42 p45 c46 [600] := fk_tr FK40 kf51 (by decide)
    show tt Zi d 118 (56, [some (.inr (.inl 0)), some (.inl a1), some (.inl a2), some (.inl a3), some (.inl a4), some (.inl a5)], [], n42, D43, s44, p45, c46) _
    replace k52 : (s44 601) = (s31 601) + 4 := k52
    have b54 : 0 ≤ (s44 601) ∧ (s44 601) ≤ 32768 := hS44 601
    refine tt_k 3 (S' := (62, [some (.inr (.inl 0)), some (.inl a1), some (.inl a2), some (.inl a3), some (.inl a4), some (.inl a5)], [.inl a5, .inr (.inl 6)], n42, D43, s44, p45, c46)) rfl ?_
    refine tt_cl (by omega) rfl (g_addFour6 (Zi := Zi) (q := q) (n := n42) (D := D43) (s := s44) (p := p45) (c := c46) (by omega) hz (by omega) FK53.1 hS44 hC46 hW47 a5 (by omega) (show (s44 601) ≤ 32764 by omega)) ?_
    rintro _ _ ⟨n55, D56, s57, p58, c59, rfl, rfl, hS57, hC59, hW60, f61, g62, xe63, kf64, k65⟩
    have FK66 : fk p c n55 p58 c59 [600] := fk_tr FK53 kf64 (by decide)
    show tt Zi d 118 (65, [some (.inr (.inl 0)), some (.inl a1), some (.inl a2), some (.inl a3), some (.inl a4), some (.inl a5)], [], n55, D56, s57, p58, c59) _
    replace k65 : (s57 601) = (s44 601) + 4 := k65
    have b67 : 0 ≤ (s57 601) ∧ (s57 601) ≤ 32768 := hS57 601
    refine tt_k 3 (S' := (72, [some (.inr (.inl 0)), some (.inl a1), some (.inl a2), some (.inl a3), some (.inl a4), some (.inl a5)], [.inl (s57 601)], n55, D56, s57, p58, c59)) rfl ?_
    exact tt_rti rfl rfl (Or.inl ⟨(s57 601), rfl, by omega, cX_mono (q := q) (show cX q g s p c [600] [601] (n55, D56, s57, p58, c59) from ⟨hS57, hC59, hW60, FK66, (show fr s s57 [601] from (fr_tr (fr_tr (fr_tr (fr_tr (fr_tr fr_rf f9 (by decide)) f22 (by decide)) f35 (by decide)) f48 (by decide)) f61 (by decide)))⟩) (by omega)⟩)
  · show tt Zi d 118 (15, [some (.inr (.inl 0)), some (.inl a1), some (.inl a2), some (.inl a3), some (.inl a4), some (.inl a5)], [], n, D, s, p, c) _
    have hn68 := wp_n hW (by omega)
    exact tt_thr (q := (12, 475)) rfl rfl (by decide) (by decide) (by omega) (by omega) (Or.inr ⟨rfl, cX_mono (q := q + 1) ⟨hS, bC_x hC (hW).dz (by decide), wp_x hW, fk_x (fk_rf hD), (show fr s s LXR from fr_rf)⟩ (by omega)⟩)
set_option maxRecDepth 100000 in
set_option maxHeartbeats 4000000 in
theorem g_end {g : Nat → Int} {Zi : Nat → Option (Nat × (Nat → Int))} {d n q : Nat} {D : Nat → Nat × Nat} {s : Nat → Int} {p : Nat → Nat} {c : Nat → Nat → Int} (hd : 3 ≤ d) (hz : zk Zi) (hq : q + 6 ≤ 400000) (hD : wd n p) (hS : bS s) (hC : bC D c) (hW : wp q g n D p s) (i : Int) (b_i : -2147483648 ≤ i ∧ i ≤ 2147483647) : tt Zi d 121 (0, [some (.inr (.inl 0)), some (.inl i)], [], n, D, s, p, c) (fun R H => (R = .inl none ∧ cX (q + 1) g s p c [] [601] H) ∨ (R = .inr 11 ∧ cX (q + 1) g s p c [] LXR H)) := by
  have b1 := wp_l6 hW
  have hc6 := hW.c6
  have b2 : 0 ≤ (s 601) ∧ (s 601) ≤ 32768 := hS 601
  refine tt_k 1 (S' := (1, [some (.inr (.inl 0)), some (.inl i)], [.inl i], n, D, s, p, c)) rfl ?_
  refine tz_lt (x := i) rfl rfl (by omega) (fun h3 => ?_) (fun h3 => ?_)
  · show tt Zi d 121 (15, [some (.inr (.inl 0)), some (.inl i)], [], n, D, s, p, c) _
    have hn4 := wp_n hW (by omega)
    exact tt_thr (q := (11, 923)) rfl rfl (by decide) (by decide) (by omega) (by omega) (Or.inr ⟨rfl, cX_mono (q := q + 1) ⟨hS, bC_x hC (hW).dz (by decide), wp_x hW, fk_x (fk_rf hD), (show fr s s LXR from fr_rf)⟩ (by omega)⟩)
  · show tt Zi d 121 (4, [some (.inr (.inl 0)), some (.inl i)], [], n, D, s, p, c) _
    refine tt_k 4 (S' := (12, [some (.inr (.inl 0)), some (.inl i)], [.inl (s 601), .inl i], n, D, s, p, c)) rfl ?_
    refine tb_le (x := i) (y := (s 601)) rfl rfl (by omega) (fun h5 => ?_) (fun h5 => ?_)
    · show tt Zi d 121 (23, [some (.inr (.inl 0)), some (.inl i)], [], n, D, s, p, c) _
      refine tt_k 4 (S' := (31, [some (.inr (.inl 0)), some (.inl i)], [], n, D, (us s 601 i), p, c)) rfl ?_
      exact tt_rtv rfl rfl (Or.inl ⟨rfl, cX_mono (q := q) (show cX q g s p c [] [601] (n, D, (us s 601 i), p, c) from ⟨(bS_us hS (show 0 ≤ i ∧ i ≤ 32768 by omega)), hC, (wp_c6 hW (show i ≤ (ln D (p 600) : Int) by omega)), (fk_rf hD), (show fr s (us s 601 i) [601] from (fr_us (by decide) fr_rf))⟩) (by omega)⟩)
    · show tt Zi d 121 (15, [some (.inr (.inl 0)), some (.inl i)], [], n, D, s, p, c) _
      have hn6 := wp_n hW (by omega)
      exact tt_thr (q := (11, 923)) rfl rfl (by decide) (by decide) (by omega) (by omega) (Or.inr ⟨rfl, cX_mono (q := q + 1) ⟨hS, bC_x hC (hW).dz (by decide), wp_x hW, fk_x (fk_rf hD), (show fr s s LXR from fr_rf)⟩ (by omega)⟩)
set_option maxRecDepth 100000 in
set_option maxHeartbeats 4000000 in
theorem g_change {g : Nat → Int} {Zi : Nat → Option (Nat × (Nat → Int))} {d n q : Nat} {D : Nat → Nat × Nat} {s : Nat → Int} {p : Nat → Nat} {c : Nat → Nat → Int} (hd : 3 ≤ d) (hz : zk Zi) (hq : q + 6 ≤ 400000) (hD : wd n p) (hS : bS s) (hC : bC D c) (hW : wp q g n D p s) (i : Int) (y : Int) (b_i : -2147483648 ≤ i ∧ i ≤ 2147483647) (b_y : -2147483648 ≤ y ∧ y ≤ 2147483647) : tt Zi d 123 (0, [some (.inr (.inl 0)), some (.inl i), some (.inl y), none], [], n, D, s, p, c) (fun R H => (∃ r : Int, R = .inl (some (.inl r)) ∧ (-2147483648 ≤ r ∧ r ≤ 2147483647) ∧ cX (q + 1) g s p c [600] [] H) ∨ (R = .inr 13 ∧ cX (q + 1) g s p c [] LXR H) ∨ (R = .inr 11 ∧ cX (q + 1) g s p c [] LXR H)) := by
  have b1 := wp_l6 hW
  have hc6 := hW.c6
  have b2 : 0 ≤ (s 601) ∧ (s 601) ≤ 32768 := hS 601
  refine tt_k 1 (S' := (1, [some (.inr (.inl 0)), some (.inl i), some (.inl y), none], [.inl i], n, D, s, p, c)) rfl ?_
  refine tz_lt (x := i) rfl rfl (by omega) (fun h3 => ?_) (fun h3 => ?_)
  · show tt Zi d 123 (15, [some (.inr (.inl 0)), some (.inl i), some (.inl y), none], [], n, D, s, p, c) _
    have hn4 := wp_n hW (by omega)
    exact tt_thr (q := (13, 955)) rfl rfl (by decide) (by decide) (by omega) (by omega) (Or.inr (Or.inl ⟨rfl, cX_mono (q := q + 1) ⟨hS, bC_x hC (hW).dz (by decide), wp_x hW, fk_x (fk_rf hD), (show fr s s LXR from fr_rf)⟩ (by omega)⟩))
  · show tt Zi d 123 (4, [some (.inr (.inl 0)), some (.inl i), some (.inl y), none], [], n, D, s, p, c) _
    refine tt_k 4 (S' := (12, [some (.inr (.inl 0)), some (.inl i), some (.inl y), none], [.inl (s 601), .inl i], n, D, s, p, c)) rfl ?_
    refine tb_lt (x := i) (y := (s 601)) rfl rfl (by omega) (fun h5 => ?_) (fun h5 => ?_)
    · show tt Zi d 123 (23, [some (.inr (.inl 0)), some (.inl i), some (.inl y), none], [], n, D, s, p, c) _
      refine tt_k 1 (S' := (24, [some (.inr (.inl 0)), some (.inl i), some (.inl y), none], [.inl y], n, D, s, p, c)) rfl ?_
      refine tz_lt (x := y) rfl rfl (by omega) (fun h6 => ?_) (fun h6 => ?_)
      · show tt Zi d 123 (34, [some (.inr (.inl 0)), some (.inl i), some (.inl y), none], [], n, D, s, p, c) _
        have hn7 := wp_n hW (by omega)
        exact tt_thr (q := (11, 923)) rfl rfl (by decide) (by decide) (by omega) (by omega) (Or.inr (Or.inr ⟨rfl, cX_mono (q := q + 1) ⟨hS, bC_x hC (hW).dz (by decide), wp_x hW, fk_x (fk_rf hD), (show fr s s LXR from fr_rf)⟩ (by omega)⟩))
      · show tt Zi d 123 (27, [some (.inr (.inl 0)), some (.inl i), some (.inl y), none], [], n, D, s, p, c) _
        refine tt_k 2 (S' := (31, [some (.inr (.inl 0)), some (.inl i), some (.inl y), none], [.inl 255, .inl y], n, D, s, p, c)) rfl ?_
        refine tb_le (x := y) (y := 255) rfl rfl (by omega) (fun h8 => ?_) (fun h8 => ?_)
        · show tt Zi d 123 (42, [some (.inr (.inl 0)), some (.inl i), some (.inl y), none], [], n, D, s, p, c) _
          refine tt_k 3 (S' := (47, [some (.inr (.inl 0)), some (.inl i), some (.inl y), none], [.inl i, .inr (.inl 6)], n, D, s, p, c)) rfl ?_
          refine tt_cl (by omega) rfl (g_get6 (Zi := Zi) (q := q) (n := n) (D := D) (s := s) (p := p) (c := c) (by omega) hz (by omega) hD hS hC hW i (by omega) (show 0 ≤ i ∧ i < (ln D (p 600) : Int) by omega)) ?_
          rintro _ _ ⟨r9, rfl, rfl, b10⟩
          show tt Zi d 123 (50, [some (.inr (.inl 0)), some (.inl i), some (.inl y), none], [.inl r9], n, D, s, p, c) _
          refine tt_k 9 (S' := (63, [some (.inr (.inl 0)), some (.inl i), some (.inl y), some (.inl (mi_xor r9 y))], [.inl (mi_i2b (mi_xor r9 y)), .inl i, .inr (.inl (p 600))], n, D, s, p, c)) rfl ?_
          have e11 := mi_xor_bd r9 y
          have e12 := mi_i2b_bd (mi_xor r9 y)
          refine tt_bsb (i := i) (m := (ln D (p 600))) (lo := -128) (hi := 127) (x := (mi_i2b (mi_xor r9 y))) rfl ((hW).r6.1) (by omega) hC ((hW).r6.2) ⟨rfl, rfl⟩ ?_
          intro c13 hC13 ec13
          show tt Zi d 123 (64, [some (.inr (.inl 0)), some (.inl i), some (.inl y), some (.inl (mi_xor r9 y))], [], n, D, s, p, c13) _
          have FK14 : fk p c n p c13 [600] := fk_st (k := 600) (fk_rf hD) ec13 (by decide) rfl
          refine tt_k 1 (S' := (65, [some (.inr (.inl 0)), some (.inl i), some (.inl y), some (.inl (mi_xor r9 y))], [.inl (mi_xor r9 y)], n, D, s, p, c13)) rfl ?_
          exact tt_rti rfl rfl (Or.inl ⟨(mi_xor r9 y), rfl, by omega, cX_mono (q := q) (show cX q g s p c [600] [] (n, D, s, p, c13) from ⟨hS, hC13, hW, FK14, (show fr s s [] from fr_rf)⟩) (by omega)⟩)
        · show tt Zi d 123 (34, [some (.inr (.inl 0)), some (.inl i), some (.inl y), none], [], n, D, s, p, c) _
          have hn15 := wp_n hW (by omega)
          exact tt_thr (q := (11, 923)) rfl rfl (by decide) (by decide) (by omega) (by omega) (Or.inr (Or.inr ⟨rfl, cX_mono (q := q + 1) ⟨hS, bC_x hC (hW).dz (by decide), wp_x hW, fk_x (fk_rf hD), (show fr s s LXR from fr_rf)⟩ (by omega)⟩))
    · show tt Zi d 123 (15, [some (.inr (.inl 0)), some (.inl i), some (.inl y), none], [], n, D, s, p, c) _
      have hn16 := wp_n hW (by omega)
      exact tt_thr (q := (13, 955)) rfl rfl (by decide) (by decide) (by omega) (by omega) (Or.inr (Or.inl ⟨rfl, cX_mono (q := q + 1) ⟨hS, bC_x hC (hW).dz (by decide), wp_x hW, fk_x (fk_rf hD), (show fr s s LXR from fr_rf)⟩ (by omega)⟩))
set_option maxRecDepth 100000 in
set_option maxHeartbeats 4000000 in
theorem g_turn {g : Nat → Int} {Zi : Nat → Option (Nat × (Nat → Int))} {d n q : Nat} {D : Nat → Nat × Nat} {s : Nat → Int} {p : Nat → Nat} {c : Nat → Nat → Int} (hd : 3 ≤ d) (hz : zk Zi) (hq : q + 6 ≤ 400000) (hD : wd n p) (hS : bS s) (hC : bC D c) (hW : wp q g n D p s)  : tt Zi d 125 (0, [some (.inr (.inl 0))], [], n, D, s, p, c) (fun R H => (∃ r : Int, R = .inl (some (.inl r)) ∧ (0 ≤ r ∧ r ≤ 32768) ∧ cX (q + 1) g s p c [600] [601] H) ∨ (R = .inr 12 ∧ cX (q + 1) g s p c [] LXR H)) := by
  refine tt_k 4 (S' := (9, [some (.inr (.inl 0))], [.inl 32768, .inl (s 401)], n, D, s, p, c)) rfl ?_
  have b1 : 0 ≤ (s 401) ∧ (s 401) ≤ 262144 := hS 401
  refine tb_le (x := (s 401)) (y := 32768) rfl rfl (by omega) (fun h2 => ?_) (fun h2 => ?_)
  · show tt Zi d 125 (20, [some (.inr (.inl 0))], [], n, D, s, p, c) _
    refine tt_k 4 (S' := (28, [some (.inr (.inl 0))], [.inr (.inl 4), .inr (.inl 6)], n, D, s, p, c)) rfl ?_
    refine tt_cl (by omega) rfl (g_copy (Zi := Zi) (q := q) (n := n) (D := D) (s := s) (p := p) (c := c) (by omega) hz (by omega) hD hS hC hW (show (s 401) ≤ 32768 by omega)) ?_
    rintro _ _ ⟨n3, D4, s5, p6, c7, rfl, rfl, hS5, hC7, hW8, f9, g10, xe11, kf12, k13⟩
    have FK14 : fk p c n3 p6 c7 [600] := fk_tr (fk_rf hD) kf12 (by decide)
    show tt Zi d 125 (31, [some (.inr (.inl 0))], [], n3, D4, s5, p6, c7) _
    replace k13 : (s5 601) = (s 401) := k13
    have b15 : 0 ≤ (s5 601) ∧ (s5 601) ≤ 32768 := hS5 601
    refine tt_k 3 (S' := (38, [some (.inr (.inl 0))], [.inl (s5 601)], n3, D4, s5, p6, c7)) rfl ?_
    exact tt_rti rfl rfl (Or.inl ⟨(s5 601), rfl, by omega, cX_mono (q := q) (show cX q g s p c [600] [601] (n3, D4, s5, p6, c7) from ⟨hS5, hC7, hW8, FK14, (show fr s s5 [601] from (fr_tr fr_rf f9 (by decide)))⟩) (by omega)⟩)
  · show tt Zi d 125 (12, [some (.inr (.inl 0))], [], n, D, s, p, c) _
    have hn16 := wp_n hW (by omega)
    exact tt_thr (q := (12, 475)) rfl rfl (by decide) (by decide) (by omega) (by omega) (Or.inr ⟨rfl, cX_mono (q := q + 1) ⟨hS, bC_x hC (hW).dz (by decide), wp_x hW, fk_x (fk_rf hD), (show fr s s LXR from fr_rf)⟩ (by omega)⟩)
set_option maxRecDepth 100000 in
set_option maxHeartbeats 4000000 in
theorem g_place {g : Nat → Int} {Zi : Nat → Option (Nat × (Nat → Int))} {d n q : Nat} {D : Nat → Nat × Nat} {s : Nat → Int} {p : Nat → Nat} {c : Nat → Nat → Int} (hd : 0 ≤ d) (hz : zk Zi) (hq : q + 0 ≤ 400000) (hD : wd n p) (hS : bS s) (hC : bC D c) (hW : wp q g n D p s)  : tt Zi d 91 (0, [some (.inr (.inl 0))], [], n, D, s, p, c) (fun R H => (∃ r : Int, R = .inl (some (.inl r)) ∧ (-1 ≤ r ∧ r ≤ 100000) ∧ cX (q + 1) g s p c [] [] H)) := by
  refine tt_k 2 (S' := (4, [some (.inr (.inl 0))], [.inl (s 11)], n, D, s, p, c)) rfl ?_
  have b1 : -1 ≤ (s 11) ∧ (s 11) ≤ 100000 := hS 11
  exact tt_rti rfl rfl ⟨(s 11), rfl, by omega, cX_mono (q := q) (show cX q g s p c [] [] (n, D, s, p, c) from ⟨hS, hC, hW, (fk_rf hD), (show fr s s [] from fr_rf)⟩) (by omega)⟩
set_option maxRecDepth 100000 in
set_option maxHeartbeats 4000000 in
theorem g_about {g : Nat → Int} {Zi : Nat → Option (Nat × (Nat → Int))} {d n q : Nat} {D : Nat → Nat × Nat} {s : Nat → Int} {p : Nat → Nat} {c : Nat → Nat → Int} (hd : 3 ≤ d) (hz : zk Zi) (hq : q + 6 ≤ 400000) (hD : wd n p) (hS : bS s) (hC : bC D c) (hW : wp q g n D p s) (i : Int) (b_i : -2147483648 ≤ i ∧ i ≤ 2147483647) : tt Zi d 128 (0, [some (.inr (.inl 0)), some (.inl i)], [], n, D, s, p, c) (fun R H => (∃ r : Int, R = .inl (some (.inl r)) ∧ (0 ≤ r ∧ r ≤ 64) ∧ cX (q + 1) g s p c [] [] H) ∨ (R = .inr 11 ∧ cX (q + 1) g s p c [] LXR H) ∨ (R = .inr 12 ∧ cX (q + 1) g s p c [] LXR H)) := by
  rcases (hW).pp with ⟨hp8, hp9⟩ | ⟨hp8, hp9⟩
  · skip
    refine tt_k 1 (S' := (1, [some (.inr (.inl 0)), some (.inl i)], [.inl i], n, D, s, p, c)) rfl ?_
    refine tz_lt (x := i) rfl rfl (by omega) (fun h1 => ?_) (fun h1 => ?_)
    · show tt Zi d 128 (9, [some (.inr (.inl 0)), some (.inl i)], [], n, D, s, p, c) _
      have hn2 := wp_n hW (by omega)
      exact tt_thr (q := (11, 923)) rfl rfl (by decide) (by decide) (by omega) (by omega) (Or.inr (Or.inl ⟨rfl, cX_mono (q := q + 1) ⟨hS, bC_x hC (hW).dz (by decide), wp_x hW, fk_x (fk_rf hD), (show fr s s LXR from fr_rf)⟩ (by omega)⟩))
    · show tt Zi d 128 (4, [some (.inr (.inl 0)), some (.inl i)], [], n, D, s, p, c) _
      refine tt_k 2 (S' := (6, [some (.inr (.inl 0)), some (.inl i)], [.inl 3, .inl i], n, D, s, p, c)) rfl ?_
      refine tb_le (x := i) (y := 3) rfl rfl (by omega) (fun h3 => ?_) (fun h3 => ?_)
      · show tt Zi d 128 (17, [some (.inr (.inl 0)), some (.inl i)], [], n, D, s, p, c) _
        refine tt_k 2 (S' := (21, [some (.inr (.inl 0)), some (.inl i)], [.inl (s 10)], n, D, s, p, c)) rfl ?_
        have b4 : 0 ≤ (s 10) ∧ (s 10) ≤ 1 := hS 10
        refine tz_ne (x := (s 10)) rfl rfl (by omega) (fun h5 => ?_) (fun h5 => ?_)
        · show tt Zi d 128 (32, [some (.inr (.inl 0)), some (.inl i)], [], n, D, s, p, c) _
          refine tt_k 1 (S' := (33, [some (.inr (.inl 0)), some (.inl i)], [.inl i], n, D, s, p, c)) rfl ?_
          by_cases h6 : i = 0
          · have h7 := h6
            refine tt_tsw (x := i) (off := 27) rfl (by omega) (by omega) (by rw [h6]; rfl) rfl ?_
            show tt Zi d 128 (60, [some (.inr (.inl 0)), some (.inl i)], [], n, D, s, p, c) _
            refine tt_k 2 (S' := (64, [some (.inr (.inl 0)), some (.inl i)], [.inr (.inl (p 8))], n, D, s, p, c)) rfl ?_
            rw [hp8]
            show tt Zi d 128 (64, [some (.inr (.inl 0)), some (.inl i)], [.inr (.inl 25)], n, D, s, p, c) _
            refine tt_k 1 (S' := (67, [some (.inr (.inl 0)), some (.inl i)], [.inl (s 2500)], n, D, s, p, c)) rfl ?_
            have b8 : 0 ≤ (s 2500) ∧ (s 2500) ≤ 64 := hS 2500
            exact tt_rti rfl rfl (Or.inl ⟨(s 2500), rfl, by omega, cX_mono (q := q) (show cX q g s p c [] [] (n, D, s, p, c) from ⟨hS, hC, hW, (fk_rf hD), (show fr s s [] from fr_rf)⟩) (by omega)⟩)
          by_cases h9 : i = 1
          · have h10 := h9
            refine tt_tsw (x := i) (off := 35) rfl (by omega) (by omega) (by rw [h9]; rfl) rfl ?_
            show tt Zi d 128 (68, [some (.inr (.inl 0)), some (.inl i)], [], n, D, s, p, c) _
            refine tt_k 2 (S' := (72, [some (.inr (.inl 0)), some (.inl i)], [.inr (.inl (p 8))], n, D, s, p, c)) rfl ?_
            rw [hp8]
            show tt Zi d 128 (72, [some (.inr (.inl 0)), some (.inl i)], [.inr (.inl 25)], n, D, s, p, c) _
            refine tt_k 1 (S' := (75, [some (.inr (.inl 0)), some (.inl i)], [.inl (s 2501)], n, D, s, p, c)) rfl ?_
            have b11 : 0 ≤ (s 2501) ∧ (s 2501) ≤ 64 := hS 2501
            exact tt_rti rfl rfl (Or.inl ⟨(s 2501), rfl, by omega, cX_mono (q := q) (show cX q g s p c [] [] (n, D, s, p, c) from ⟨hS, hC, hW, (fk_rf hD), (show fr s s [] from fr_rf)⟩) (by omega)⟩)
          by_cases h12 : i = 2
          · have h13 := h12
            refine tt_tsw (x := i) (off := 43) rfl (by omega) (by omega) (by rw [h12]; rfl) rfl ?_
            show tt Zi d 128 (76, [some (.inr (.inl 0)), some (.inl i)], [], n, D, s, p, c) _
            refine tt_k 2 (S' := (80, [some (.inr (.inl 0)), some (.inl i)], [.inr (.inl (p 8))], n, D, s, p, c)) rfl ?_
            rw [hp8]
            show tt Zi d 128 (80, [some (.inr (.inl 0)), some (.inl i)], [.inr (.inl 25)], n, D, s, p, c) _
            refine tt_k 1 (S' := (83, [some (.inr (.inl 0)), some (.inl i)], [.inl (s 2502)], n, D, s, p, c)) rfl ?_
            have b14 : 0 ≤ (s 2502) ∧ (s 2502) ≤ 3 := hS 2502
            exact tt_rti rfl rfl (Or.inl ⟨(s 2502), rfl, by omega, cX_mono (q := q) (show cX q g s p c [] [] (n, D, s, p, c) from ⟨hS, hC, hW, (fk_rf hD), (show fr s s [] from fr_rf)⟩) (by omega)⟩)
          refine tt_tsd (x := i) rfl (by omega) (by omega) rfl ?_
          show tt Zi d 128 (84, [some (.inr (.inl 0)), some (.inl i)], [], n, D, s, p, c) _
          refine tt_k 2 (S' := (88, [some (.inr (.inl 0)), some (.inl i)], [.inr (.inl (p 8))], n, D, s, p, c)) rfl ?_
          rw [hp8]
          show tt Zi d 128 (88, [some (.inr (.inl 0)), some (.inl i)], [.inr (.inl 25)], n, D, s, p, c) _
          refine tt_k 1 (S' := (91, [some (.inr (.inl 0)), some (.inl i)], [.inl (s 2503)], n, D, s, p, c)) rfl ?_
          have b15 : 0 ≤ (s 2503) ∧ (s 2503) ≤ 16 := hS 2503
          exact tt_rti rfl rfl (Or.inl ⟨(s 2503), rfl, by omega, cX_mono (q := q) (show cX q g s p c [] [] (n, D, s, p, c) from ⟨hS, hC, hW, (fk_rf hD), (show fr s s [] from fr_rf)⟩) (by omega)⟩)
        · show tt Zi d 128 (24, [some (.inr (.inl 0)), some (.inl i)], [], n, D, s, p, c) _
          have hn16 := wp_n hW (by omega)
          exact tt_thr (q := (12, 475)) rfl rfl (by decide) (by decide) (by omega) (by omega) (Or.inr (Or.inr ⟨rfl, cX_mono (q := q + 1) ⟨hS, bC_x hC (hW).dz (by decide), wp_x hW, fk_x (fk_rf hD), (show fr s s LXR from fr_rf)⟩ (by omega)⟩))
      · show tt Zi d 128 (9, [some (.inr (.inl 0)), some (.inl i)], [], n, D, s, p, c) _
        have hn17 := wp_n hW (by omega)
        exact tt_thr (q := (11, 923)) rfl rfl (by decide) (by decide) (by omega) (by omega) (Or.inr (Or.inl ⟨rfl, cX_mono (q := q + 1) ⟨hS, bC_x hC (hW).dz (by decide), wp_x hW, fk_x (fk_rf hD), (show fr s s LXR from fr_rf)⟩ (by omega)⟩))
  · skip
    refine tt_k 1 (S' := (1, [some (.inr (.inl 0)), some (.inl i)], [.inl i], n, D, s, p, c)) rfl ?_
    refine tz_lt (x := i) rfl rfl (by omega) (fun h18 => ?_) (fun h18 => ?_)
    · show tt Zi d 128 (9, [some (.inr (.inl 0)), some (.inl i)], [], n, D, s, p, c) _
      have hn19 := wp_n hW (by omega)
      exact tt_thr (q := (11, 923)) rfl rfl (by decide) (by decide) (by omega) (by omega) (Or.inr (Or.inl ⟨rfl, cX_mono (q := q + 1) ⟨hS, bC_x hC (hW).dz (by decide), wp_x hW, fk_x (fk_rf hD), (show fr s s LXR from fr_rf)⟩ (by omega)⟩))
    · show tt Zi d 128 (4, [some (.inr (.inl 0)), some (.inl i)], [], n, D, s, p, c) _
      refine tt_k 2 (S' := (6, [some (.inr (.inl 0)), some (.inl i)], [.inl 3, .inl i], n, D, s, p, c)) rfl ?_
      refine tb_le (x := i) (y := 3) rfl rfl (by omega) (fun h20 => ?_) (fun h20 => ?_)
      · show tt Zi d 128 (17, [some (.inr (.inl 0)), some (.inl i)], [], n, D, s, p, c) _
        refine tt_k 2 (S' := (21, [some (.inr (.inl 0)), some (.inl i)], [.inl (s 10)], n, D, s, p, c)) rfl ?_
        have b21 : 0 ≤ (s 10) ∧ (s 10) ≤ 1 := hS 10
        refine tz_ne (x := (s 10)) rfl rfl (by omega) (fun h22 => ?_) (fun h22 => ?_)
        · show tt Zi d 128 (32, [some (.inr (.inl 0)), some (.inl i)], [], n, D, s, p, c) _
          refine tt_k 1 (S' := (33, [some (.inr (.inl 0)), some (.inl i)], [.inl i], n, D, s, p, c)) rfl ?_
          by_cases h23 : i = 0
          · have h24 := h23
            refine tt_tsw (x := i) (off := 27) rfl (by omega) (by omega) (by rw [h23]; rfl) rfl ?_
            show tt Zi d 128 (60, [some (.inr (.inl 0)), some (.inl i)], [], n, D, s, p, c) _
            refine tt_k 2 (S' := (64, [some (.inr (.inl 0)), some (.inl i)], [.inr (.inl (p 8))], n, D, s, p, c)) rfl ?_
            rw [hp8]
            show tt Zi d 128 (64, [some (.inr (.inl 0)), some (.inl i)], [.inr (.inl 27)], n, D, s, p, c) _
            refine tt_k 1 (S' := (67, [some (.inr (.inl 0)), some (.inl i)], [.inl (s 2700)], n, D, s, p, c)) rfl ?_
            have b25 : 0 ≤ (s 2700) ∧ (s 2700) ≤ 64 := hS 2700
            exact tt_rti rfl rfl (Or.inl ⟨(s 2700), rfl, by omega, cX_mono (q := q) (show cX q g s p c [] [] (n, D, s, p, c) from ⟨hS, hC, hW, (fk_rf hD), (show fr s s [] from fr_rf)⟩) (by omega)⟩)
          by_cases h26 : i = 1
          · have h27 := h26
            refine tt_tsw (x := i) (off := 35) rfl (by omega) (by omega) (by rw [h26]; rfl) rfl ?_
            show tt Zi d 128 (68, [some (.inr (.inl 0)), some (.inl i)], [], n, D, s, p, c) _
            refine tt_k 2 (S' := (72, [some (.inr (.inl 0)), some (.inl i)], [.inr (.inl (p 8))], n, D, s, p, c)) rfl ?_
            rw [hp8]
            show tt Zi d 128 (72, [some (.inr (.inl 0)), some (.inl i)], [.inr (.inl 27)], n, D, s, p, c) _
            refine tt_k 1 (S' := (75, [some (.inr (.inl 0)), some (.inl i)], [.inl (s 2701)], n, D, s, p, c)) rfl ?_
            have b28 : 0 ≤ (s 2701) ∧ (s 2701) ≤ 64 := hS 2701
            exact tt_rti rfl rfl (Or.inl ⟨(s 2701), rfl, by omega, cX_mono (q := q) (show cX q g s p c [] [] (n, D, s, p, c) from ⟨hS, hC, hW, (fk_rf hD), (show fr s s [] from fr_rf)⟩) (by omega)⟩)
          by_cases h29 : i = 2
          · have h30 := h29
            refine tt_tsw (x := i) (off := 43) rfl (by omega) (by omega) (by rw [h29]; rfl) rfl ?_
            show tt Zi d 128 (76, [some (.inr (.inl 0)), some (.inl i)], [], n, D, s, p, c) _
            refine tt_k 2 (S' := (80, [some (.inr (.inl 0)), some (.inl i)], [.inr (.inl (p 8))], n, D, s, p, c)) rfl ?_
            rw [hp8]
            show tt Zi d 128 (80, [some (.inr (.inl 0)), some (.inl i)], [.inr (.inl 27)], n, D, s, p, c) _
            refine tt_k 1 (S' := (83, [some (.inr (.inl 0)), some (.inl i)], [.inl (s 2702)], n, D, s, p, c)) rfl ?_
            have b31 : 0 ≤ (s 2702) ∧ (s 2702) ≤ 3 := hS 2702
            exact tt_rti rfl rfl (Or.inl ⟨(s 2702), rfl, by omega, cX_mono (q := q) (show cX q g s p c [] [] (n, D, s, p, c) from ⟨hS, hC, hW, (fk_rf hD), (show fr s s [] from fr_rf)⟩) (by omega)⟩)
          refine tt_tsd (x := i) rfl (by omega) (by omega) rfl ?_
          show tt Zi d 128 (84, [some (.inr (.inl 0)), some (.inl i)], [], n, D, s, p, c) _
          refine tt_k 2 (S' := (88, [some (.inr (.inl 0)), some (.inl i)], [.inr (.inl (p 8))], n, D, s, p, c)) rfl ?_
          rw [hp8]
          show tt Zi d 128 (88, [some (.inr (.inl 0)), some (.inl i)], [.inr (.inl 27)], n, D, s, p, c) _
          refine tt_k 1 (S' := (91, [some (.inr (.inl 0)), some (.inl i)], [.inl (s 2703)], n, D, s, p, c)) rfl ?_
          have b32 : 0 ≤ (s 2703) ∧ (s 2703) ≤ 16 := hS 2703
          exact tt_rti rfl rfl (Or.inl ⟨(s 2703), rfl, by omega, cX_mono (q := q) (show cX q g s p c [] [] (n, D, s, p, c) from ⟨hS, hC, hW, (fk_rf hD), (show fr s s [] from fr_rf)⟩) (by omega)⟩)
        · show tt Zi d 128 (24, [some (.inr (.inl 0)), some (.inl i)], [], n, D, s, p, c) _
          have hn33 := wp_n hW (by omega)
          exact tt_thr (q := (12, 475)) rfl rfl (by decide) (by decide) (by omega) (by omega) (Or.inr (Or.inr ⟨rfl, cX_mono (q := q + 1) ⟨hS, bC_x hC (hW).dz (by decide), wp_x hW, fk_x (fk_rf hD), (show fr s s LXR from fr_rf)⟩ (by omega)⟩))
      · show tt Zi d 128 (9, [some (.inr (.inl 0)), some (.inl i)], [], n, D, s, p, c) _
        have hn34 := wp_n hW (by omega)
        exact tt_thr (q := (11, 923)) rfl rfl (by decide) (by decide) (by omega) (by omega) (Or.inr (Or.inl ⟨rfl, cX_mono (q := q + 1) ⟨hS, bC_x hC (hW).dz (by decide), wp_x hW, fk_x (fk_rf hD), (show fr s s LXR from fr_rf)⟩ (by omega)⟩))
set_option maxRecDepth 100000 in
set_option maxHeartbeats 4000000 in
theorem g_sample {g : Nat → Int} {Zi : Nat → Option (Nat × (Nat → Int))} {d n q : Nat} {D : Nat → Nat × Nat} {s : Nat → Int} {p : Nat → Nat} {c : Nat → Nat → Int} (hd : 3 ≤ d) (hz : zk Zi) (hq : q + 6 ≤ 400000) (hD : wd n p) (hS : bS s) (hC : bC D c) (hW : wp q g n D p s) (a_ : Int) (x : Int) (y : Int) (b_a_ : -2147483648 ≤ a_ ∧ a_ ≤ 2147483647) (b_x : -2147483648 ≤ x ∧ x ≤ 2147483647) (b_y : -2147483648 ≤ y ∧ y ≤ 2147483647) : tt Zi d 130 (0, [some (.inr (.inl 0)), some (.inl a_), some (.inl x), some (.inl y)], [], n, D, s, p, c) (fun R H => (∃ r : Int, R = .inl (some (.inl r)) ∧ (0 ≤ r ∧ r ≤ 65535) ∧ cX (q + 1) g s p c [] [] H) ∨ (R = .inr 12 ∧ cX (q + 1) g s p c [] LXR H) ∨ (R = .inr 13 ∧ cX (q + 1) g s p c [] LXR H)) := by
  rcases (hW).pp with ⟨hp8, hp9⟩ | ⟨hp8, hp9⟩
  · skip
    refine tt_k 2 (S' := (4, [some (.inr (.inl 0)), some (.inl a_), some (.inl x), some (.inl y)], [.inl (s 10)], n, D, s, p, c)) rfl ?_
    have b1 : 0 ≤ (s 10) ∧ (s 10) ≤ 1 := hS 10
    refine tz_ne (x := (s 10)) rfl rfl (by omega) (fun h2 => ?_) (fun h2 => ?_)
    · show tt Zi d 130 (15, [some (.inr (.inl 0)), some (.inl a_), some (.inl x), some (.inl y)], [], n, D, s, p, c) _
      refine tt_k 2 (S' := (19, [some (.inr (.inl 0)), some (.inl a_), some (.inl x), some (.inl y)], [.inr (.inl (p 8))], n, D, s, p, c)) rfl ?_
      rw [hp8]
      show tt Zi d 130 (19, [some (.inr (.inl 0)), some (.inl a_), some (.inl x), some (.inl y)], [.inr (.inl 25)], n, D, s, p, c) _
      refine tt_k 3 (S' := (22, [some (.inr (.inl 0)), some (.inl a_), some (.inl x), some (.inl y)], [.inl y, .inl x, .inl a_, .inr (.inl 25)], n, D, s, p, c)) rfl ?_
      refine tt_cl (by omega) rfl (g_has25 (Zi := Zi) (q := q) (n := n) (D := D) (s := s) (p := p) (c := c) (by omega) hz (by omega) hD hS hC hW a_ x y (by omega) (by omega) (by omega)) ?_
      rintro _ _ ⟨r3, rfl, rfl, b4, k5⟩
      show tt Zi d 130 (25, [some (.inr (.inl 0)), some (.inl a_), some (.inl x), some (.inl y)], [.inl r3], n, D, s, p, c) _
      replace k5 : r3 = 1 ↔ ((0 ≤ a_ ∧ a_ < (s 2502)) ∧ (0 ≤ x ∧ x < (s 2500)) ∧ (0 ≤ y ∧ y < (s 2501))) := k5
      have b6 : 0 ≤ (s 2502) ∧ (s 2502) ≤ 3 := hS 2502
      have b7 : 0 ≤ (s 2500) ∧ (s 2500) ≤ 64 := hS 2500
      have b8 : 0 ≤ (s 2501) ∧ (s 2501) ≤ 64 := hS 2501
      refine tz_ne (x := r3) rfl rfl (by omega) (fun h9 => ?_) (fun h9 => ?_)
      · show tt Zi d 130 (36, [some (.inr (.inl 0)), some (.inl a_), some (.inl x), some (.inl y)], [], n, D, s, p, c) _
        refine tt_k 2 (S' := (40, [some (.inr (.inl 0)), some (.inl a_), some (.inl x), some (.inl y)], [.inr (.inl (p 8))], n, D, s, p, c)) rfl ?_
        rw [hp8]
        show tt Zi d 130 (40, [some (.inr (.inl 0)), some (.inl a_), some (.inl x), some (.inl y)], [.inr (.inl 25)], n, D, s, p, c) _
        refine tt_k 3 (S' := (47, [some (.inr (.inl 0)), some (.inl a_), some (.inl x), some (.inl y)], [.inr (.inl (p 8)), .inr (.inl (p 2504))], n, D, s, p, c)) rfl ?_
        rw [hp8]
        show tt Zi d 130 (47, [some (.inr (.inl 0)), some (.inl a_), some (.inl x), some (.inl y)], [.inr (.inl 25), .inr (.inl (p 2504))], n, D, s, p, c) _
        refine tt_k 3 (S' := (50, [some (.inr (.inl 0)), some (.inl a_), some (.inl x), some (.inl y)], [.inl y, .inl x, .inl a_, .inr (.inl 25), .inr (.inl (p 2504))], n, D, s, p, c)) rfl ?_
        have b10 : ln D (p 2504) ≤ 12288 := (hW).p25.2.2
        have b11 := hW.w25
        refine tt_cl (by omega) rfl (g_index25 (Zi := Zi) (q := q) (n := n) (D := D) (s := s) (p := p) (c := c) (by omega) hz (by omega) hD hS hC hW a_ x y (by omega) (by omega) (by omega) (show a_ < (s 2502) ∧ x < (s 2500) ∧ y < (s 2501) by omega)) ?_
        rintro _ _ ⟨r12, rfl, rfl, b13, k14, k15⟩
        show tt Zi d 130 (53, [some (.inr (.inl 0)), some (.inl a_), some (.inl x), some (.inl y)], [.inl r12, .inr (.inl (p 2504))], n, D, s, p, c) _
        replace k14 : r12 = (a_ * (s 2501) + y) * (s 2500) + x := k14
        replace k15 : r12 + (s 2500) - x ≤ (s 2500) * (s 2501) * (s 2502) := k15
        refine tt_ilb (i := r12) (m := (ln D (p 2504))) (lo := 0) (hi := 65535) rfl ((hW).p25.1) (by omega) hC ((hW).p25.2.1) ?_
        intro v16 b17 hvv16
        show tt Zi d 130 (54, [some (.inr (.inl 0)), some (.inl a_), some (.inl x), some (.inl y)], [.inl v16], n, D, s, p, c) _
        exact tt_rti rfl rfl (Or.inl ⟨v16, rfl, by omega, cX_mono (q := q) (show cX q g s p c [] [] (n, D, s, p, c) from ⟨hS, hC, hW, (fk_rf hD), (show fr s s [] from fr_rf)⟩) (by omega)⟩)
      · show tt Zi d 130 (28, [some (.inr (.inl 0)), some (.inl a_), some (.inl x), some (.inl y)], [], n, D, s, p, c) _
        have hn18 := wp_n hW (by omega)
        exact tt_thr (q := (13, 955)) rfl rfl (by decide) (by decide) (by omega) (by omega) (Or.inr (Or.inr ⟨rfl, cX_mono (q := q + 1) ⟨hS, bC_x hC (hW).dz (by decide), wp_x hW, fk_x (fk_rf hD), (show fr s s LXR from fr_rf)⟩ (by omega)⟩))
    · show tt Zi d 130 (7, [some (.inr (.inl 0)), some (.inl a_), some (.inl x), some (.inl y)], [], n, D, s, p, c) _
      have hn19 := wp_n hW (by omega)
      exact tt_thr (q := (12, 475)) rfl rfl (by decide) (by decide) (by omega) (by omega) (Or.inr (Or.inl ⟨rfl, cX_mono (q := q + 1) ⟨hS, bC_x hC (hW).dz (by decide), wp_x hW, fk_x (fk_rf hD), (show fr s s LXR from fr_rf)⟩ (by omega)⟩))
  · skip
    refine tt_k 2 (S' := (4, [some (.inr (.inl 0)), some (.inl a_), some (.inl x), some (.inl y)], [.inl (s 10)], n, D, s, p, c)) rfl ?_
    have b20 : 0 ≤ (s 10) ∧ (s 10) ≤ 1 := hS 10
    refine tz_ne (x := (s 10)) rfl rfl (by omega) (fun h21 => ?_) (fun h21 => ?_)
    · show tt Zi d 130 (15, [some (.inr (.inl 0)), some (.inl a_), some (.inl x), some (.inl y)], [], n, D, s, p, c) _
      refine tt_k 2 (S' := (19, [some (.inr (.inl 0)), some (.inl a_), some (.inl x), some (.inl y)], [.inr (.inl (p 8))], n, D, s, p, c)) rfl ?_
      rw [hp8]
      show tt Zi d 130 (19, [some (.inr (.inl 0)), some (.inl a_), some (.inl x), some (.inl y)], [.inr (.inl 27)], n, D, s, p, c) _
      refine tt_k 3 (S' := (22, [some (.inr (.inl 0)), some (.inl a_), some (.inl x), some (.inl y)], [.inl y, .inl x, .inl a_, .inr (.inl 27)], n, D, s, p, c)) rfl ?_
      refine tt_cl (by omega) rfl (g_has27 (Zi := Zi) (q := q) (n := n) (D := D) (s := s) (p := p) (c := c) (by omega) hz (by omega) hD hS hC hW a_ x y (by omega) (by omega) (by omega)) ?_
      rintro _ _ ⟨r22, rfl, rfl, b23, k24⟩
      show tt Zi d 130 (25, [some (.inr (.inl 0)), some (.inl a_), some (.inl x), some (.inl y)], [.inl r22], n, D, s, p, c) _
      replace k24 : r22 = 1 ↔ ((0 ≤ a_ ∧ a_ < (s 2702)) ∧ (0 ≤ x ∧ x < (s 2700)) ∧ (0 ≤ y ∧ y < (s 2701))) := k24
      have b25 : 0 ≤ (s 2702) ∧ (s 2702) ≤ 3 := hS 2702
      have b26 : 0 ≤ (s 2700) ∧ (s 2700) ≤ 64 := hS 2700
      have b27 : 0 ≤ (s 2701) ∧ (s 2701) ≤ 64 := hS 2701
      refine tz_ne (x := r22) rfl rfl (by omega) (fun h28 => ?_) (fun h28 => ?_)
      · show tt Zi d 130 (36, [some (.inr (.inl 0)), some (.inl a_), some (.inl x), some (.inl y)], [], n, D, s, p, c) _
        refine tt_k 2 (S' := (40, [some (.inr (.inl 0)), some (.inl a_), some (.inl x), some (.inl y)], [.inr (.inl (p 8))], n, D, s, p, c)) rfl ?_
        rw [hp8]
        show tt Zi d 130 (40, [some (.inr (.inl 0)), some (.inl a_), some (.inl x), some (.inl y)], [.inr (.inl 27)], n, D, s, p, c) _
        refine tt_k 3 (S' := (47, [some (.inr (.inl 0)), some (.inl a_), some (.inl x), some (.inl y)], [.inr (.inl (p 8)), .inr (.inl (p 2704))], n, D, s, p, c)) rfl ?_
        rw [hp8]
        show tt Zi d 130 (47, [some (.inr (.inl 0)), some (.inl a_), some (.inl x), some (.inl y)], [.inr (.inl 27), .inr (.inl (p 2704))], n, D, s, p, c) _
        refine tt_k 3 (S' := (50, [some (.inr (.inl 0)), some (.inl a_), some (.inl x), some (.inl y)], [.inl y, .inl x, .inl a_, .inr (.inl 27), .inr (.inl (p 2704))], n, D, s, p, c)) rfl ?_
        have b29 : ln D (p 2704) ≤ 12288 := (hW).p27.2.2
        have b30 := hW.w27
        refine tt_cl (by omega) rfl (g_index27 (Zi := Zi) (q := q) (n := n) (D := D) (s := s) (p := p) (c := c) (by omega) hz (by omega) hD hS hC hW a_ x y (by omega) (by omega) (by omega) (show a_ < (s 2702) ∧ x < (s 2700) ∧ y < (s 2701) by omega)) ?_
        rintro _ _ ⟨r31, rfl, rfl, b32, k33, k34⟩
        show tt Zi d 130 (53, [some (.inr (.inl 0)), some (.inl a_), some (.inl x), some (.inl y)], [.inl r31, .inr (.inl (p 2704))], n, D, s, p, c) _
        replace k33 : r31 = (a_ * (s 2701) + y) * (s 2700) + x := k33
        replace k34 : r31 + (s 2700) - x ≤ (s 2700) * (s 2701) * (s 2702) := k34
        refine tt_ilb (i := r31) (m := (ln D (p 2704))) (lo := 0) (hi := 65535) rfl ((hW).p27.1) (by omega) hC ((hW).p27.2.1) ?_
        intro v35 b36 hvv35
        show tt Zi d 130 (54, [some (.inr (.inl 0)), some (.inl a_), some (.inl x), some (.inl y)], [.inl v35], n, D, s, p, c) _
        exact tt_rti rfl rfl (Or.inl ⟨v35, rfl, by omega, cX_mono (q := q) (show cX q g s p c [] [] (n, D, s, p, c) from ⟨hS, hC, hW, (fk_rf hD), (show fr s s [] from fr_rf)⟩) (by omega)⟩)
      · show tt Zi d 130 (28, [some (.inr (.inl 0)), some (.inl a_), some (.inl x), some (.inl y)], [], n, D, s, p, c) _
        have hn37 := wp_n hW (by omega)
        exact tt_thr (q := (13, 955)) rfl rfl (by decide) (by decide) (by omega) (by omega) (Or.inr (Or.inr ⟨rfl, cX_mono (q := q + 1) ⟨hS, bC_x hC (hW).dz (by decide), wp_x hW, fk_x (fk_rf hD), (show fr s s LXR from fr_rf)⟩ (by omega)⟩))
    · show tt Zi d 130 (7, [some (.inr (.inl 0)), some (.inl a_), some (.inl x), some (.inl y)], [], n, D, s, p, c) _
      have hn38 := wp_n hW (by omega)
      exact tt_thr (q := (12, 475)) rfl rfl (by decide) (by decide) (by omega) (by omega) (Or.inr (Or.inl ⟨rfl, cX_mono (q := q + 1) ⟨hS, bC_x hC (hW).dz (by decide), wp_x hW, fk_x (fk_rf hD), (show fr s s LXR from fr_rf)⟩ (by omega)⟩))
set_option maxRecDepth 100000 in
set_option maxHeartbeats 4000000 in
theorem g_learned {g : Nat → Int} {Zi : Nat → Option (Nat × (Nat → Int))} {d n q : Nat} {D : Nat → Nat × Nat} {s : Nat → Int} {p : Nat → Nat} {c : Nat → Nat → Int} (hd : 3 ≤ d) (hz : zk Zi) (hq : q + 6 ≤ 400000) (hD : wd n p) (hS : bS s) (hC : bC D c) (hW : wp q g n D p s) (i : Int) (w_ : Int) (b_i : -2147483648 ≤ i ∧ i ≤ 2147483647) (b_w_ : -2147483648 ≤ w_ ∧ w_ ≤ 2147483647) : tt Zi d 132 (0, [some (.inr (.inl 0)), some (.inl i), some (.inl w_)], [], n, D, s, p, c) (fun R H => (∃ r : Int, R = .inl (some (.inl r)) ∧ (-2147483648 ≤ r ∧ r ≤ 2147483647) ∧ cX (q + 1) g s p c [] [] H) ∨ (R = .inr 13 ∧ cX (q + 1) g s p c [] LXR H) ∨ (R = .inr 11 ∧ cX (q + 1) g s p c [] LXR H)) := by
  refine tt_k 1 (S' := (1, [some (.inr (.inl 0)), some (.inl i), some (.inl w_)], [.inl i], n, D, s, p, c)) rfl ?_
  refine tz_lt (x := i) rfl rfl (by omega) (fun h1 => ?_) (fun h1 => ?_)
  · show tt Zi d 132 (11, [some (.inr (.inl 0)), some (.inl i), some (.inl w_)], [], n, D, s, p, c) _
    have hn2 := wp_n hW (by omega)
    exact tt_thr (q := (13, 955)) rfl rfl (by decide) (by decide) (by omega) (by omega) (Or.inr (Or.inl ⟨rfl, cX_mono (q := q + 1) ⟨hS, bC_x hC (hW).dz (by decide), wp_x hW, fk_x (fk_rf hD), (show fr s s LXR from fr_rf)⟩ (by omega)⟩))
  · show tt Zi d 132 (4, [some (.inr (.inl 0)), some (.inl i), some (.inl w_)], [], n, D, s, p, c) _
    refine tt_k 2 (S' := (8, [some (.inr (.inl 0)), some (.inl i), some (.inl w_)], [.inl 367, .inl i], n, D, s, p, c)) rfl ?_
    refine tb_lt (x := i) (y := 367) rfl rfl (by omega) (fun h3 => ?_) (fun h3 => ?_)
    · show tt Zi d 132 (19, [some (.inr (.inl 0)), some (.inl i), some (.inl w_)], [], n, D, s, p, c) _
      refine tt_k 1 (S' := (20, [some (.inr (.inl 0)), some (.inl i), some (.inl w_)], [.inl w_], n, D, s, p, c)) rfl ?_
      refine tz_lt (x := w_) rfl rfl (by omega) (fun h4 => ?_) (fun h4 => ?_)
      · show tt Zi d 132 (28, [some (.inr (.inl 0)), some (.inl i), some (.inl w_)], [], n, D, s, p, c) _
        have hn5 := wp_n hW (by omega)
        exact tt_thr (q := (11, 923)) rfl rfl (by decide) (by decide) (by omega) (by omega) (Or.inr (Or.inr ⟨rfl, cX_mono (q := q + 1) ⟨hS, bC_x hC (hW).dz (by decide), wp_x hW, fk_x (fk_rf hD), (show fr s s LXR from fr_rf)⟩ (by omega)⟩))
      · show tt Zi d 132 (23, [some (.inr (.inl 0)), some (.inl i), some (.inl w_)], [], n, D, s, p, c) _
        refine tt_k 2 (S' := (25, [some (.inr (.inl 0)), some (.inl i), some (.inl w_)], [.inl 4, .inl w_], n, D, s, p, c)) rfl ?_
        refine tb_lt (x := w_) (y := 4) rfl rfl (by omega) (fun h6 => ?_) (fun h6 => ?_)
        · show tt Zi d 132 (36, [some (.inr (.inl 0)), some (.inl i), some (.inl w_)], [], n, D, s, p, c) _
          refine tt_k 8 (S' := (48, [some (.inr (.inl 0)), some (.inl i), some (.inl w_)], [.inl ((4 * i) + w_), .inr (.inl (p 900))], n, D, s, p, c)) rfl ?_
          refine tt_ilb (i := ((4 * i) + w_)) (m := 1468) (lo := -2147483648) (hi := 2147483647) rfl ((sw_arr (hW).m9 rfl rfl).1) (by omega) hC ((sw_now (hW).m9).1) ?_
          intro v7 b8 hvv7
          show tt Zi d 132 (49, [some (.inr (.inl 0)), some (.inl i), some (.inl w_)], [.inl v7], n, D, s, p, c) _
          exact tt_rti rfl rfl (Or.inl ⟨v7, rfl, by omega, cX_mono (q := q) (show cX q g s p c [] [] (n, D, s, p, c) from ⟨hS, hC, hW, (fk_rf hD), (show fr s s [] from fr_rf)⟩) (by omega)⟩)
        · show tt Zi d 132 (28, [some (.inr (.inl 0)), some (.inl i), some (.inl w_)], [], n, D, s, p, c) _
          have hn9 := wp_n hW (by omega)
          exact tt_thr (q := (11, 923)) rfl rfl (by decide) (by decide) (by omega) (by omega) (Or.inr (Or.inr ⟨rfl, cX_mono (q := q + 1) ⟨hS, bC_x hC (hW).dz (by decide), wp_x hW, fk_x (fk_rf hD), (show fr s s LXR from fr_rf)⟩ (by omega)⟩))
    · show tt Zi d 132 (11, [some (.inr (.inl 0)), some (.inl i), some (.inl w_)], [], n, D, s, p, c) _
      have hn10 := wp_n hW (by omega)
      exact tt_thr (q := (13, 955)) rfl rfl (by decide) (by decide) (by omega) (by omega) (Or.inr (Or.inl ⟨rfl, cX_mono (q := q + 1) ⟨hS, bC_x hC (hW).dz (by decide), wp_x hW, fk_x (fk_rf hD), (show fr s s LXR from fr_rf)⟩ (by omega)⟩))
