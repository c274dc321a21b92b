/-! the class's small calls -/
set_option maxRecDepth 100000 in
set_option maxHeartbeats 4000000 in
theorem g_at {g : Nat → Int} {Zi : Nat → Option (Nat × (Nat → Int))} {d n q : Nat} {D : Nat → Nat × Nat} {s : Nat → Int} {p : Nat → Nat} {c : Nat → Nat → Int} (hd : 3 ≤ d) (hz : zk Zi) (hq : q + 6 ≤ 400000) (hD : wd n p) (hS : bS s) (hC : bC D c) (hW : wp q g n D p s) (a_ : Int) (x : Int) (y : Int) (b_a_ : -2147483648 ≤ a_ ∧ a_ ≤ 2147483647) (b_x : -2147483648 ≤ x ∧ x ≤ 2147483647) (b_y : -2147483648 ≤ y ∧ y ≤ 2147483647) : tt Zi d 101 (0, [some (.inr (.inl 0)), some (.inl a_), some (.inl x), some (.inl y)], [], n, D, s, p, c) (fun R H => (∃ r : Int, R = .inl (some (.inl r)) ∧ (0 ≤ r ∧ r ≤ 65535) ∧ cX (q + 1) g s p c [] [] H ∧ ((0 ≤ a_ ∧ a_ < s 102) ∧ (0 ≤ x ∧ x < s 100) ∧ (0 ≤ y ∧ y < s 101)) ∧ (r = c (p 104) ((a_ * s 101 + y) * s 100 + x).toNat)) ∨ (R = .inr 13 ∧ cX (q + 1) g s p c [] LXR H ∧ ¬ ((0 ≤ a_ ∧ a_ < s 102) ∧ (0 ≤ x ∧ x < s 100) ∧ (0 ≤ y ∧ y < s 101)))) := by
  have b1 : ln D (p 104) ≤ 12288 := (hW).p1.2.2
  have b2 : 1 ≤ (s 100) ∧ (s 100) ≤ 64 := hS 100
  have b3 : 1 ≤ (s 101) ∧ (s 101) ≤ 64 := hS 101
  have b4 : 1 ≤ (s 102) ∧ (s 102) ≤ 3 := hS 102
  have hw1 := hW.w1
  refine tt_k 5 (S' := (7, [some (.inr (.inl 0)), some (.inl a_), some (.inl x), some (.inl y)], [.inl y, .inl x, .inl a_, .inr (.inl 1)], n, D, s, p, c)) rfl ?_
  refine tt_cl (by omega) rfl (g_has1 (Zi := Zi) (q := q) (n := n) (D := D) (s := s) (p := p) (c := c) (by omega) hz (by omega) hD hS hC hW a_ x y (by omega) (by omega) (by omega)) ?_
  rintro _ _ ⟨r5, rfl, rfl, b6, k7⟩
  show tt Zi d 101 (10, [some (.inr (.inl 0)), some (.inl a_), some (.inl x), some (.inl y)], [.inl r5], n, D, s, p, c) _
  replace k7 : r5 = 1 ↔ ((0 ≤ a_ ∧ a_ < (s 102)) ∧ (0 ≤ x ∧ x < (s 100)) ∧ (0 ≤ y ∧ y < (s 101))) := k7
  refine tz_ne (x := r5) rfl rfl (by omega) (fun h8 => ?_) (fun h8 => ?_)
  · show tt Zi d 101 (21, [some (.inr (.inl 0)), some (.inl a_), some (.inl x), some (.inl y)], [], n, D, s, p, c) _
    refine tt_k 8 (S' := (35, [some (.inr (.inl 0)), some (.inl a_), some (.inl x), some (.inl y)], [.inl y, .inl x, .inl a_, .inr (.inl 1), .inr (.inl (p 104))], n, D, s, p, c)) rfl ?_
    refine tt_cl (by omega) rfl (g_index1 (Zi := Zi) (q := q) (n := n) (D := D) (s := s) (p := p) (c := c) (by omega) hz (by omega) hD hS hC hW a_ x y (by omega) (by omega) (by omega) (show a_ < (s 102) ∧ x < (s 100) ∧ y < (s 101) by omega)) ?_
    rintro _ _ ⟨r9, rfl, rfl, b10, k11, k12⟩
    show tt Zi d 101 (38, [some (.inr (.inl 0)), some (.inl a_), some (.inl x), some (.inl y)], [.inl r9, .inr (.inl (p 104))], n, D, s, p, c) _
    replace k11 : r9 = (a_ * (s 101) + y) * (s 100) + x := k11
    replace k12 : r9 + (s 100) - x ≤ (s 100) * (s 101) * (s 102) := k12
    refine tt_ilb (i := r9) (m := (ln D (p 104))) (lo := 0) (hi := 65535) rfl ((hW).p1.1) (by omega) hC ((hW).p1.2.1) ?_
    intro v13 b14 hvv13
    show tt Zi d 101 (39, [some (.inr (.inl 0)), some (.inl a_), some (.inl x), some (.inl y)], [.inl v13], n, D, s, p, c) _
    exact tt_rti rfl rfl (Or.inl ⟨v13, rfl, by omega, cX_mono (q := q) (show cX q g s p c [] [] (n, D, s, p, c) from ⟨hS, hC, hW, (fk_rf hD), (show fr s s [] from fr_rf)⟩) (by omega), by omega, by rw [← hvv13, k11]⟩)
  · show tt Zi d 101 (13, [some (.inr (.inl 0)), some (.inl a_), some (.inl x), some (.inl y)], [], n, D, s, p, c) _
    have hn15 := wp_n hW (by omega)
    exact tt_thr (q := (13, 955)) rfl rfl (by decide) (by decide) (by omega) (by omega) (Or.inr ⟨rfl, cX_mono (q := q + 1) ⟨hS, bC_x hC (hW).dz (by decide), wp_x hW, fk_x (fk_rf hD), (show fr s s LXR from fr_rf)⟩ (by omega), by omega⟩)
set_option maxRecDepth 100000 in
set_option maxHeartbeats 4000000 in
theorem g_place {g : Nat → Int} {Zi : Nat → Option (Nat × (Nat → Int))} {d n q : Nat} {D : Nat → Nat × Nat} {s : Nat → Int} {p : Nat → Nat} {c : Nat → Nat → Int} (hd : 0 ≤ d) (hz : zk Zi) (hq : q + 0 ≤ 400000) (hD : wd n p) (hS : bS s) (hC : bC D c) (hW : wp q g n D p s)  : tt Zi d 91 (0, [some (.inr (.inl 0))], [], n, D, s, p, c) (fun R H => (∃ r : Int, R = .inl (some (.inl r)) ∧ (-1 ≤ r ∧ r ≤ 100000) ∧ cX (q + 1) g s p c [] [] H)) := by
  refine tt_k 2 (S' := (4, [some (.inr (.inl 0))], [.inl (s 11)], n, D, s, p, c)) rfl ?_
  have b1 : -1 ≤ (s 11) ∧ (s 11) ≤ 100000 := hS 11
  exact tt_rti rfl rfl ⟨(s 11), rfl, by omega, cX_mono (q := q) (show cX q g s p c [] [] (n, D, s, p, c) from ⟨hS, hC, hW, (fk_rf hD), (show fr s s [] from fr_rf)⟩) (by omega)⟩
set_option maxRecDepth 100000 in
set_option maxHeartbeats 4000000 in
theorem g_about {g : Nat → Int} {Zi : Nat → Option (Nat × (Nat → Int))} {d n q : Nat} {D : Nat → Nat × Nat} {s : Nat → Int} {p : Nat → Nat} {c : Nat → Nat → Int} (hd : 3 ≤ d) (hz : zk Zi) (hq : q + 6 ≤ 400000) (hD : wd n p) (hS : bS s) (hC : bC D c) (hW : wp q g n D p s) (i : Int) (b_i : -2147483648 ≤ i ∧ i ≤ 2147483647) : tt Zi d 128 (0, [some (.inr (.inl 0)), some (.inl i)], [], n, D, s, p, c) (fun R H => (∃ r : Int, R = .inl (some (.inl r)) ∧ (0 ≤ r ∧ r ≤ 64) ∧ cX (q + 1) g s p c [] [] H) ∨ (R = .inr 11 ∧ cX (q + 1) g s p c [] LXR H) ∨ (R = .inr 12 ∧ cX (q + 1) g s p c [] LXR H)) := by
  rcases (hW).pp with ⟨hp8, hp9⟩ | ⟨hp8, hp9⟩
  · skip
    refine tt_k 1 (S' := (1, [some (.inr (.inl 0)), some (.inl i)], [.inl i], n, D, s, p, c)) rfl ?_
    refine tz_lt (x := i) rfl rfl (by omega) (fun h1 => ?_) (fun h1 => ?_)
    · show tt Zi d 128 (9, [some (.inr (.inl 0)), some (.inl i)], [], n, D, s, p, c) _
      have hn2 := wp_n hW (by omega)
      exact tt_thr (q := (11, 923)) rfl rfl (by decide) (by decide) (by omega) (by omega) (Or.inr (Or.inl ⟨rfl, cX_mono (q := q + 1) ⟨hS, bC_x hC (hW).dz (by decide), wp_x hW, fk_x (fk_rf hD), (show fr s s LXR from fr_rf)⟩ (by omega)⟩))
    · show tt Zi d 128 (4, [some (.inr (.inl 0)), some (.inl i)], [], n, D, s, p, c) _
      refine tt_k 2 (S' := (6, [some (.inr (.inl 0)), some (.inl i)], [.inl 3, .inl i], n, D, s, p, c)) rfl ?_
      refine tb_le (x := i) (y := 3) rfl rfl (by omega) (fun h3 => ?_) (fun h3 => ?_)
      · show tt Zi d 128 (17, [some (.inr (.inl 0)), some (.inl i)], [], n, D, s, p, c) _
        refine tt_k 2 (S' := (21, [some (.inr (.inl 0)), some (.inl i)], [.inl (s 10)], n, D, s, p, c)) rfl ?_
        have b4 : 0 ≤ (s 10) ∧ (s 10) ≤ 1 := hS 10
        refine tz_ne (x := (s 10)) rfl rfl (by omega) (fun h5 => ?_) (fun h5 => ?_)
        · show tt Zi d 128 (32, [some (.inr (.inl 0)), some (.inl i)], [], n, D, s, p, c) _
          refine tt_k 1 (S' := (33, [some (.inr (.inl 0)), some (.inl i)], [.inl i], n, D, s, p, c)) rfl ?_
          by_cases h6 : i = 0
          · have h7 := h6
            refine tt_tsw (x := i) (off := 27) rfl (by omega) (by omega) (by rw [h6]; rfl) rfl ?_
            show tt Zi d 128 (60, [some (.inr (.inl 0)), some (.inl i)], [], n, D, s, p, c) _
            refine tt_k 2 (S' := (64, [some (.inr (.inl 0)), some (.inl i)], [.inr (.inl (p 8))], n, D, s, p, c)) rfl ?_
            rw [hp8]
            show tt Zi d 128 (64, [some (.inr (.inl 0)), some (.inl i)], [.inr (.inl 25)], n, D, s, p, c) _
            refine tt_k 1 (S' := (67, [some (.inr (.inl 0)), some (.inl i)], [.inl (s 2500)], n, D, s, p, c)) rfl ?_
            have b8 : 0 ≤ (s 2500) ∧ (s 2500) ≤ 64 := hS 2500
            exact tt_rti rfl rfl (Or.inl ⟨(s 2500), rfl, by omega, cX_mono (q := q) (show cX q g s p c [] [] (n, D, s, p, c) from ⟨hS, hC, hW, (fk_rf hD), (show fr s s [] from fr_rf)⟩) (by omega)⟩)
          by_cases h9 : i = 1
          · have h10 := h9
            refine tt_tsw (x := i) (off := 35) rfl (by omega) (by omega) (by rw [h9]; rfl) rfl ?_
            show tt Zi d 128 (68, [some (.inr (.inl 0)), some (.inl i)], [], n, D, s, p, c) _
            refine tt_k 2 (S' := (72, [some (.inr (.inl 0)), some (.inl i)], [.inr (.inl (p 8))], n, D, s, p, c)) rfl ?_
            rw [hp8]
            show tt Zi d 128 (72, [some (.inr (.inl 0)), some (.inl i)], [.inr (.inl 25)], n, D, s, p, c) _
            refine tt_k 1 (S' := (75, [some (.inr (.inl 0)), some (.inl i)], [.inl (s 2501)], n, D, s, p, c)) rfl ?_
            have b11 : 0 ≤ (s 2501) ∧ (s 2501) ≤ 64 := hS 2501
            exact tt_rti rfl rfl (Or.inl ⟨(s 2501), rfl, by omega, cX_mono (q := q) (show cX q g s p c [] [] (n, D, s, p, c) from ⟨hS, hC, hW, (fk_rf hD), (show fr s s [] from fr_rf)⟩) (by omega)⟩)
          by_cases h12 : i = 2
          · have h13 := h12
            refine tt_tsw (x := i) (off := 43) rfl (by omega) (by omega) (by rw [h12]; rfl) rfl ?_
            show tt Zi d 128 (76, [some (.inr (.inl 0)), some (.inl i)], [], n, D, s, p, c) _
            refine tt_k 2 (S' := (80, [some (.inr (.inl 0)), some (.inl i)], [.inr (.inl (p 8))], n, D, s, p, c)) rfl ?_
            rw [hp8]
            show tt Zi d 128 (80, [some (.inr (.inl 0)), some (.inl i)], [.inr (.inl 25)], n, D, s, p, c) _
            refine tt_k 1 (S' := (83, [some (.inr (.inl 0)), some (.inl i)], [.inl (s 2502)], n, D, s, p, c)) rfl ?_
            have b14 : 0 ≤ (s 2502) ∧ (s 2502) ≤ 3 := hS 2502
            exact tt_rti rfl rfl (Or.inl ⟨(s 2502), rfl, by omega, cX_mono (q := q) (show cX q g s p c [] [] (n, D, s, p, c) from ⟨hS, hC, hW, (fk_rf hD), (show fr s s [] from fr_rf)⟩) (by omega)⟩)
          refine tt_tsd (x := i) rfl (by omega) (by omega) rfl ?_
          show tt Zi d 128 (84, [some (.inr (.inl 0)), some (.inl i)], [], n, D, s, p, c) _
          refine tt_k 2 (S' := (88, [some (.inr (.inl 0)), some (.inl i)], [.inr (.inl (p 8))], n, D, s, p, c)) rfl ?_
          rw [hp8]
          show tt Zi d 128 (88, [some (.inr (.inl 0)), some (.inl i)], [.inr (.inl 25)], n, D, s, p, c) _
          refine tt_k 1 (S' := (91, [some (.inr (.inl 0)), some (.inl i)], [.inl (s 2503)], n, D, s, p, c)) rfl ?_
          have b15 : 0 ≤ (s 2503) ∧ (s 2503) ≤ 16 := hS 2503
          exact tt_rti rfl rfl (Or.inl ⟨(s 2503), rfl, by omega, cX_mono (q := q) (show cX q g s p c [] [] (n, D, s, p, c) from ⟨hS, hC, hW, (fk_rf hD), (show fr s s [] from fr_rf)⟩) (by omega)⟩)
        · show tt Zi d 128 (24, [some (.inr (.inl 0)), some (.inl i)], [], n, D, s, p, c) _
          have hn16 := wp_n hW (by omega)
          exact tt_thr (q := (12, 475)) rfl rfl (by decide) (by decide) (by omega) (by omega) (Or.inr (Or.inr ⟨rfl, cX_mono (q := q + 1) ⟨hS, bC_x hC (hW).dz (by decide), wp_x hW, fk_x (fk_rf hD), (show fr s s LXR from fr_rf)⟩ (by omega)⟩))
      · show tt Zi d 128 (9, [some (.inr (.inl 0)), some (.inl i)], [], n, D, s, p, c) _
        have hn17 := wp_n hW (by omega)
        exact tt_thr (q := (11, 923)) rfl rfl (by decide) (by decide) (by omega) (by omega) (Or.inr (Or.inl ⟨rfl, cX_mono (q := q + 1) ⟨hS, bC_x hC (hW).dz (by decide), wp_x hW, fk_x (fk_rf hD), (show fr s s LXR from fr_rf)⟩ (by omega)⟩))
  · skip
    refine tt_k 1 (S' := (1, [some (.inr (.inl 0)), some (.inl i)], [.inl i], n, D, s, p, c)) rfl ?_
    refine tz_lt (x := i) rfl rfl (by omega) (fun h18 => ?_) (fun h18 => ?_)
    · show tt Zi d 128 (9, [some (.inr (.inl 0)), some (.inl i)], [], n, D, s, p, c) _
      have hn19 := wp_n hW (by omega)
      exact tt_thr (q := (11, 923)) rfl rfl (by decide) (by decide) (by omega) (by omega) (Or.inr (Or.inl ⟨rfl, cX_mono (q := q + 1) ⟨hS, bC_x hC (hW).dz (by decide), wp_x hW, fk_x (fk_rf hD), (show fr s s LXR from fr_rf)⟩ (by omega)⟩))
    · show tt Zi d 128 (4, [some (.inr (.inl 0)), some (.inl i)], [], n, D, s, p, c) _
      refine tt_k 2 (S' := (6, [some (.inr (.inl 0)), some (.inl i)], [.inl 3, .inl i], n, D, s, p, c)) rfl ?_
      refine tb_le (x := i) (y := 3) rfl rfl (by omega) (fun h20 => ?_) (fun h20 => ?_)
      · show tt Zi d 128 (17, [some (.inr (.inl 0)), some (.inl i)], [], n, D, s, p, c) _
        refine tt_k 2 (S' := (21, [some (.inr (.inl 0)), some (.inl i)], [.inl (s 10)], n, D, s, p, c)) rfl ?_
        have b21 : 0 ≤ (s 10) ∧ (s 10) ≤ 1 := hS 10
        refine tz_ne (x := (s 10)) rfl rfl (by omega) (fun h22 => ?_) (fun h22 => ?_)
        · show tt Zi d 128 (32, [some (.inr (.inl 0)), some (.inl i)], [], n, D, s, p, c) _
          refine tt_k 1 (S' := (33, [some (.inr (.inl 0)), some (.inl i)], [.inl i], n, D, s, p, c)) rfl ?_
          by_cases h23 : i = 0
          · have h24 := h23
            refine tt_tsw (x := i) (off := 27) rfl (by omega) (by omega) (by rw [h23]; rfl) rfl ?_
            show tt Zi d 128 (60, [some (.inr (.inl 0)), some (.inl i)], [], n, D, s, p, c) _
            refine tt_k 2 (S' := (64, [some (.inr (.inl 0)), some (.inl i)], [.inr (.inl (p 8))], n, D, s, p, c)) rfl ?_
            rw [hp8]
            show tt Zi d 128 (64, [some (.inr (.inl 0)), some (.inl i)], [.inr (.inl 27)], n, D, s, p, c) _
            refine tt_k 1 (S' := (67, [some (.inr (.inl 0)), some (.inl i)], [.inl (s 2700)], n, D, s, p, c)) rfl ?_
            have b25 : 0 ≤ (s 2700) ∧ (s 2700) ≤ 64 := hS 2700
            exact tt_rti rfl rfl (Or.inl ⟨(s 2700), rfl, by omega, cX_mono (q := q) (show cX q g s p c [] [] (n, D, s, p, c) from ⟨hS, hC, hW, (fk_rf hD), (show fr s s [] from fr_rf)⟩) (by omega)⟩)
          by_cases h26 : i = 1
          · have h27 := h26
            refine tt_tsw (x := i) (off := 35) rfl (by omega) (by omega) (by rw [h26]; rfl) rfl ?_
            show tt Zi d 128 (68, [some (.inr (.inl 0)), some (.inl i)], [], n, D, s, p, c) _
            refine tt_k 2 (S' := (72, [some (.inr (.inl 0)), some (.inl i)], [.inr (.inl (p 8))], n, D, s, p, c)) rfl ?_
            rw [hp8]
            show tt Zi d 128 (72, [some (.inr (.inl 0)), some (.inl i)], [.inr (.inl 27)], n, D, s, p, c) _
            refine tt_k 1 (S' := (75, [some (.inr (.inl 0)), some (.inl i)], [.inl (s 2701)], n, D, s, p, c)) rfl ?_
            have b28 : 0 ≤ (s 2701) ∧ (s 2701) ≤ 64 := hS 2701
            exact tt_rti rfl rfl (Or.inl ⟨(s 2701), rfl, by omega, cX_mono (q := q) (show cX q g s p c [] [] (n, D, s, p, c) from ⟨hS, hC, hW, (fk_rf hD), (show fr s s [] from fr_rf)⟩) (by omega)⟩)
          by_cases h29 : i = 2
          · have h30 := h29
            refine tt_tsw (x := i) (off := 43) rfl (by omega) (by omega) (by rw [h29]; rfl) rfl ?_
            show tt Zi d 128 (76, [some (.inr (.inl 0)), some (.inl i)], [], n, D, s, p, c) _
            refine tt_k 2 (S' := (80, [some (.inr (.inl 0)), some (.inl i)], [.inr (.inl (p 8))], n, D, s, p, c)) rfl ?_
            rw [hp8]
            show tt Zi d 128 (80, [some (.inr (.inl 0)), some (.inl i)], [.inr (.inl 27)], n, D, s, p, c) _
            refine tt_k 1 (S' := (83, [some (.inr (.inl 0)), some (.inl i)], [.inl (s 2702)], n, D, s, p, c)) rfl ?_
            have b31 : 0 ≤ (s 2702) ∧ (s 2702) ≤ 3 := hS 2702
            exact tt_rti rfl rfl (Or.inl ⟨(s 2702), rfl, by omega, cX_mono (q := q) (show cX q g s p c [] [] (n, D, s, p, c) from ⟨hS, hC, hW, (fk_rf hD), (show fr s s [] from fr_rf)⟩) (by omega)⟩)
          refine tt_tsd (x := i) rfl (by omega) (by omega) rfl ?_
          show tt Zi d 128 (84, [some (.inr (.inl 0)), some (.inl i)], [], n, D, s, p, c) _
          refine tt_k 2 (S' := (88, [some (.inr (.inl 0)), some (.inl i)], [.inr (.inl (p 8))], n, D, s, p, c)) rfl ?_
          rw [hp8]
          show tt Zi d 128 (88, [some (.inr (.inl 0)), some (.inl i)], [.inr (.inl 27)], n, D, s, p, c) _
          refine tt_k 1 (S' := (91, [some (.inr (.inl 0)), some (.inl i)], [.inl (s 2703)], n, D, s, p, c)) rfl ?_
          have b32 : 0 ≤ (s 2703) ∧ (s 2703) ≤ 16 := hS 2703
          exact tt_rti rfl rfl (Or.inl ⟨(s 2703), rfl, by omega, cX_mono (q := q) (show cX q g s p c [] [] (n, D, s, p, c) from ⟨hS, hC, hW, (fk_rf hD), (show fr s s [] from fr_rf)⟩) (by omega)⟩)
        · show tt Zi d 128 (24, [some (.inr (.inl 0)), some (.inl i)], [], n, D, s, p, c) _
          have hn33 := wp_n hW (by omega)
          exact tt_thr (q := (12, 475)) rfl rfl (by decide) (by decide) (by omega) (by omega) (Or.inr (Or.inr ⟨rfl, cX_mono (q := q + 1) ⟨hS, bC_x hC (hW).dz (by decide), wp_x hW, fk_x (fk_rf hD), (show fr s s LXR from fr_rf)⟩ (by omega)⟩))
      · show tt Zi d 128 (9, [some (.inr (.inl 0)), some (.inl i)], [], n, D, s, p, c) _
        have hn34 := wp_n hW (by omega)
        exact tt_thr (q := (11, 923)) rfl rfl (by decide) (by decide) (by omega) (by omega) (Or.inr (Or.inl ⟨rfl, cX_mono (q := q + 1) ⟨hS, bC_x hC (hW).dz (by decide), wp_x hW, fk_x (fk_rf hD), (show fr s s LXR from fr_rf)⟩ (by omega)⟩))
set_option maxRecDepth 100000 in
set_option maxHeartbeats 4000000 in
theorem g_sample {g : Nat → Int} {Zi : Nat → Option (Nat × (Nat → Int))} {d n q : Nat} {D : Nat → Nat × Nat} {s : Nat → Int} {p : Nat → Nat} {c : Nat → Nat → Int} (hd : 3 ≤ d) (hz : zk Zi) (hq : q + 6 ≤ 400000) (hD : wd n p) (hS : bS s) (hC : bC D c) (hW : wp q g n D p s) (a_ : Int) (x : Int) (y : Int) (b_a_ : -2147483648 ≤ a_ ∧ a_ ≤ 2147483647) (b_x : -2147483648 ≤ x ∧ x ≤ 2147483647) (b_y : -2147483648 ≤ y ∧ y ≤ 2147483647) : tt Zi d 130 (0, [some (.inr (.inl 0)), some (.inl a_), some (.inl x), some (.inl y)], [], n, D, s, p, c) (fun R H => (∃ r : Int, R = .inl (some (.inl r)) ∧ (0 ≤ r ∧ r ≤ 65535) ∧ cX (q + 1) g s p c [] [] H) ∨ (R = .inr 12 ∧ cX (q + 1) g s p c [] LXR H) ∨ (R = .inr 13 ∧ cX (q + 1) g s p c [] LXR H)) := by
  rcases (hW).pp with ⟨hp8, hp9⟩ | ⟨hp8, hp9⟩
  · skip
    refine tt_k 2 (S' := (4, [some (.inr (.inl 0)), some (.inl a_), some (.inl x), some (.inl y)], [.inl (s 10)], n, D, s, p, c)) rfl ?_
    have b1 : 0 ≤ (s 10) ∧ (s 10) ≤ 1 := hS 10
    refine tz_ne (x := (s 10)) rfl rfl (by omega) (fun h2 => ?_) (fun h2 => ?_)
    · show tt Zi d 130 (15, [some (.inr (.inl 0)), some (.inl a_), some (.inl x), some (.inl y)], [], n, D, s, p, c) _
      refine tt_k 2 (S' := (19, [some (.inr (.inl 0)), some (.inl a_), some (.inl x), some (.inl y)], [.inr (.inl (p 8))], n, D, s, p, c)) rfl ?_
      rw [hp8]
      show tt Zi d 130 (19, [some (.inr (.inl 0)), some (.inl a_), some (.inl x), some (.inl y)], [.inr (.inl 25)], n, D, s, p, c) _
      refine tt_k 3 (S' := (22, [some (.inr (.inl 0)), some (.inl a_), some (.inl x), some (.inl y)], [.inl y, .inl x, .inl a_, .inr (.inl 25)], n, D, s, p, c)) rfl ?_
      refine tt_cl (by omega) rfl (g_has25 (Zi := Zi) (q := q) (n := n) (D := D) (s := s) (p := p) (c := c) (by omega) hz (by omega) hD hS hC hW a_ x y (by omega) (by omega) (by omega)) ?_
      rintro _ _ ⟨r3, rfl, rfl, b4, k5⟩
      show tt Zi d 130 (25, [some (.inr (.inl 0)), some (.inl a_), some (.inl x), some (.inl y)], [.inl r3], n, D, s, p, c) _
      replace k5 : r3 = 1 ↔ ((0 ≤ a_ ∧ a_ < (s 2502)) ∧ (0 ≤ x ∧ x < (s 2500)) ∧ (0 ≤ y ∧ y < (s 2501))) := k5
      have b6 : 0 ≤ (s 2502) ∧ (s 2502) ≤ 3 := hS 2502
      have b7 : 0 ≤ (s 2500) ∧ (s 2500) ≤ 64 := hS 2500
      have b8 : 0 ≤ (s 2501) ∧ (s 2501) ≤ 64 := hS 2501
      refine tz_ne (x := r3) rfl rfl (by omega) (fun h9 => ?_) (fun h9 => ?_)
      · show tt Zi d 130 (36, [some (.inr (.inl 0)), some (.inl a_), some (.inl x), some (.inl y)], [], n, D, s, p, c) _
        refine tt_k 2 (S' := (40, [some (.inr (.inl 0)), some (.inl a_), some (.inl x), some (.inl y)], [.inr (.inl (p 8))], n, D, s, p, c)) rfl ?_
        rw [hp8]
        show tt Zi d 130 (40, [some (.inr (.inl 0)), some (.inl a_), some (.inl x), some (.inl y)], [.inr (.inl 25)], n, D, s, p, c) _
        refine tt_k 3 (S' := (47, [some (.inr (.inl 0)), some (.inl a_), some (.inl x), some (.inl y)], [.inr (.inl (p 8)), .inr (.inl (p 2504))], n, D, s, p, c)) rfl ?_
        rw [hp8]
        show tt Zi d 130 (47, [some (.inr (.inl 0)), some (.inl a_), some (.inl x), some (.inl y)], [.inr (.inl 25), .inr (.inl (p 2504))], n, D, s, p, c) _
        refine tt_k 3 (S' := (50, [some (.inr (.inl 0)), some (.inl a_), some (.inl x), some (.inl y)], [.inl y, .inl x, .inl a_, .inr (.inl 25), .inr (.inl (p 2504))], n, D, s, p, c)) rfl ?_
        have b10 : ln D (p 2504) ≤ 12288 := (hW).p25.2.2
        have b11 := hW.w25
        refine tt_cl (by omega) rfl (g_index25 (Zi := Zi) (q := q) (n := n) (D := D) (s := s) (p := p) (c := c) (by omega) hz (by omega) hD hS hC hW a_ x y (by omega) (by omega) (by omega) (show a_ < (s 2502) ∧ x < (s 2500) ∧ y < (s 2501) by omega)) ?_
        rintro _ _ ⟨r12, rfl, rfl, b13, k14, k15⟩
        show tt Zi d 130 (53, [some (.inr (.inl 0)), some (.inl a_), some (.inl x), some (.inl y)], [.inl r12, .inr (.inl (p 2504))], n, D, s, p, c) _
        replace k14 : r12 = (a_ * (s 2501) + y) * (s 2500) + x := k14
        replace k15 : r12 + (s 2500) - x ≤ (s 2500) * (s 2501) * (s 2502) := k15
        refine tt_ilb (i := r12) (m := (ln D (p 2504))) (lo := 0) (hi := 65535) rfl ((hW).p25.1) (by omega) hC ((hW).p25.2.1) ?_
        intro v16 b17 hvv16
        show tt Zi d 130 (54, [some (.inr (.inl 0)), some (.inl a_), some (.inl x), some (.inl y)], [.inl v16], n, D, s, p, c) _
        exact tt_rti rfl rfl (Or.inl ⟨v16, rfl, by omega, cX_mono (q := q) (show cX q g s p c [] [] (n, D, s, p, c) from ⟨hS, hC, hW, (fk_rf hD), (show fr s s [] from fr_rf)⟩) (by omega)⟩)
      · show tt Zi d 130 (28, [some (.inr (.inl 0)), some (.inl a_), some (.inl x), some (.inl y)], [], n, D, s, p, c) _
        have hn18 := wp_n hW (by omega)
        exact tt_thr (q := (13, 955)) rfl rfl (by decide) (by decide) (by omega) (by omega) (Or.inr (Or.inr ⟨rfl, cX_mono (q := q + 1) ⟨hS, bC_x hC (hW).dz (by decide), wp_x hW, fk_x (fk_rf hD), (show fr s s LXR from fr_rf)⟩ (by omega)⟩))
    · show tt Zi d 130 (7, [some (.inr (.inl 0)), some (.inl a_), some (.inl x), some (.inl y)], [], n, D, s, p, c) _
      have hn19 := wp_n hW (by omega)
      exact tt_thr (q := (12, 475)) rfl rfl (by decide) (by decide) (by omega) (by omega) (Or.inr (Or.inl ⟨rfl, cX_mono (q := q + 1) ⟨hS, bC_x hC (hW).dz (by decide), wp_x hW, fk_x (fk_rf hD), (show fr s s LXR from fr_rf)⟩ (by omega)⟩))
  · skip
    refine tt_k 2 (S' := (4, [some (.inr (.inl 0)), some (.inl a_), some (.inl x), some (.inl y)], [.inl (s 10)], n, D, s, p, c)) rfl ?_
    have b20 : 0 ≤ (s 10) ∧ (s 10) ≤ 1 := hS 10
    refine tz_ne (x := (s 10)) rfl rfl (by omega) (fun h21 => ?_) (fun h21 => ?_)
    · show tt Zi d 130 (15, [some (.inr (.inl 0)), some (.inl a_), some (.inl x), some (.inl y)], [], n, D, s, p, c) _
      refine tt_k 2 (S' := (19, [some (.inr (.inl 0)), some (.inl a_), some (.inl x), some (.inl y)], [.inr (.inl (p 8))], n, D, s, p, c)) rfl ?_
      rw [hp8]
      show tt Zi d 130 (19, [some (.inr (.inl 0)), some (.inl a_), some (.inl x), some (.inl y)], [.inr (.inl 27)], n, D, s, p, c) _
      refine tt_k 3 (S' := (22, [some (.inr (.inl 0)), some (.inl a_), some (.inl x), some (.inl y)], [.inl y, .inl x, .inl a_, .inr (.inl 27)], n, D, s, p, c)) rfl ?_
      refine tt_cl (by omega) rfl (g_has27 (Zi := Zi) (q := q) (n := n) (D := D) (s := s) (p := p) (c := c) (by omega) hz (by omega) hD hS hC hW a_ x y (by omega) (by omega) (by omega)) ?_
      rintro _ _ ⟨r22, rfl, rfl, b23, k24⟩
      show tt Zi d 130 (25, [some (.inr (.inl 0)), some (.inl a_), some (.inl x), some (.inl y)], [.inl r22], n, D, s, p, c) _
      replace k24 : r22 = 1 ↔ ((0 ≤ a_ ∧ a_ < (s 2702)) ∧ (0 ≤ x ∧ x < (s 2700)) ∧ (0 ≤ y ∧ y < (s 2701))) := k24
      have b25 : 0 ≤ (s 2702) ∧ (s 2702) ≤ 3 := hS 2702
      have b26 : 0 ≤ (s 2700) ∧ (s 2700) ≤ 64 := hS 2700
      have b27 : 0 ≤ (s 2701) ∧ (s 2701) ≤ 64 := hS 2701
      refine tz_ne (x := r22) rfl rfl (by omega) (fun h28 => ?_) (fun h28 => ?_)
      · show tt Zi d 130 (36, [some (.inr (.inl 0)), some (.inl a_), some (.inl x), some (.inl y)], [], n, D, s, p, c) _
        refine tt_k 2 (S' := (40, [some (.inr (.inl 0)), some (.inl a_), some (.inl x), some (.inl y)], [.inr (.inl (p 8))], n, D, s, p, c)) rfl ?_
        rw [hp8]
        show tt Zi d 130 (40, [some (.inr (.inl 0)), some (.inl a_), some (.inl x), some (.inl y)], [.inr (.inl 27)], n, D, s, p, c) _
        refine tt_k 3 (S' := (47, [some (.inr (.inl 0)), some (.inl a_), some (.inl x), some (.inl y)], [.inr (.inl (p 8)), .inr (.inl (p 2704))], n, D, s, p, c)) rfl ?_
        rw [hp8]
        show tt Zi d 130 (47, [some (.inr (.inl 0)), some (.inl a_), some (.inl x), some (.inl y)], [.inr (.inl 27), .inr (.inl (p 2704))], n, D, s, p, c) _
        refine tt_k 3 (S' := (50, [some (.inr (.inl 0)), some (.inl a_), some (.inl x), some (.inl y)], [.inl y, .inl x, .inl a_, .inr (.inl 27), .inr (.inl (p 2704))], n, D, s, p, c)) rfl ?_
        have b29 : ln D (p 2704) ≤ 12288 := (hW).p27.2.2
        have b30 := hW.w27
        refine tt_cl (by omega) rfl (g_index27 (Zi := Zi) (q := q) (n := n) (D := D) (s := s) (p := p) (c := c) (by omega) hz (by omega) hD hS hC hW a_ x y (by omega) (by omega) (by omega) (show a_ < (s 2702) ∧ x < (s 2700) ∧ y < (s 2701) by omega)) ?_
        rintro _ _ ⟨r31, rfl, rfl, b32, k33, k34⟩
        show tt Zi d 130 (53, [some (.inr (.inl 0)), some (.inl a_), some (.inl x), some (.inl y)], [.inl r31, .inr (.inl (p 2704))], n, D, s, p, c) _
        replace k33 : r31 = (a_ * (s 2701) + y) * (s 2700) + x := k33
        replace k34 : r31 + (s 2700) - x ≤ (s 2700) * (s 2701) * (s 2702) := k34
        refine tt_ilb (i := r31) (m := (ln D (p 2704))) (lo := 0) (hi := 65535) rfl ((hW).p27.1) (by omega) hC ((hW).p27.2.1) ?_
        intro v35 b36 hvv35
        show tt Zi d 130 (54, [some (.inr (.inl 0)), some (.inl a_), some (.inl x), some (.inl y)], [.inl v35], n, D, s, p, c) _
        exact tt_rti rfl rfl (Or.inl ⟨v35, rfl, by omega, cX_mono (q := q) (show cX q g s p c [] [] (n, D, s, p, c) from ⟨hS, hC, hW, (fk_rf hD), (show fr s s [] from fr_rf)⟩) (by omega)⟩)
      · show tt Zi d 130 (28, [some (.inr (.inl 0)), some (.inl a_), some (.inl x), some (.inl y)], [], n, D, s, p, c) _
        have hn37 := wp_n hW (by omega)
        exact tt_thr (q := (13, 955)) rfl rfl (by decide) (by decide) (by omega) (by omega) (Or.inr (Or.inr ⟨rfl, cX_mono (q := q + 1) ⟨hS, bC_x hC (hW).dz (by decide), wp_x hW, fk_x (fk_rf hD), (show fr s s LXR from fr_rf)⟩ (by omega)⟩))
    · show tt Zi d 130 (7, [some (.inr (.inl 0)), some (.inl a_), some (.inl x), some (.inl y)], [], n, D, s, p, c) _
      have hn38 := wp_n hW (by omega)
      exact tt_thr (q := (12, 475)) rfl rfl (by decide) (by decide) (by omega) (by omega) (Or.inr (Or.inl ⟨rfl, cX_mono (q := q + 1) ⟨hS, bC_x hC (hW).dz (by decide), wp_x hW, fk_x (fk_rf hD), (show fr s s LXR from fr_rf)⟩ (by omega)⟩))
set_option maxRecDepth 100000 in
set_option maxHeartbeats 4000000 in
theorem g_learned {g : Nat → Int} {Zi : Nat → Option (Nat × (Nat → Int))} {d n q : Nat} {D : Nat → Nat × Nat} {s : Nat → Int} {p : Nat → Nat} {c : Nat → Nat → Int} (hd : 3 ≤ d) (hz : zk Zi) (hq : q + 6 ≤ 400000) (hD : wd n p) (hS : bS s) (hC : bC D c) (hW : wp q g n D p s) (i : Int) (w_ : Int) (b_i : -2147483648 ≤ i ∧ i ≤ 2147483647) (b_w_ : -2147483648 ≤ w_ ∧ w_ ≤ 2147483647) : tt Zi d 132 (0, [some (.inr (.inl 0)), some (.inl i), some (.inl w_)], [], n, D, s, p, c) (fun R H => (∃ r : Int, R = .inl (some (.inl r)) ∧ (-2147483648 ≤ r ∧ r ≤ 2147483647) ∧ cX (q + 1) g s p c [] [] H) ∨ (R = .inr 13 ∧ cX (q + 1) g s p c [] LXR H) ∨ (R = .inr 11 ∧ cX (q + 1) g s p c [] LXR H)) := by
  refine tt_k 1 (S' := (1, [some (.inr (.inl 0)), some (.inl i), some (.inl w_)], [.inl i], n, D, s, p, c)) rfl ?_
  refine tz_lt (x := i) rfl rfl (by omega) (fun h1 => ?_) (fun h1 => ?_)
  · show tt Zi d 132 (11, [some (.inr (.inl 0)), some (.inl i), some (.inl w_)], [], n, D, s, p, c) _
    have hn2 := wp_n hW (by omega)
    exact tt_thr (q := (13, 955)) rfl rfl (by decide) (by decide) (by omega) (by omega) (Or.inr (Or.inl ⟨rfl, cX_mono (q := q + 1) ⟨hS, bC_x hC (hW).dz (by decide), wp_x hW, fk_x (fk_rf hD), (show fr s s LXR from fr_rf)⟩ (by omega)⟩))
  · show tt Zi d 132 (4, [some (.inr (.inl 0)), some (.inl i), some (.inl w_)], [], n, D, s, p, c) _
    refine tt_k 2 (S' := (8, [some (.inr (.inl 0)), some (.inl i), some (.inl w_)], [.inl 367, .inl i], n, D, s, p, c)) rfl ?_
    refine tb_lt (x := i) (y := 367) rfl rfl (by omega) (fun h3 => ?_) (fun h3 => ?_)
    · show tt Zi d 132 (19, [some (.inr (.inl 0)), some (.inl i), some (.inl w_)], [], n, D, s, p, c) _
      refine tt_k 1 (S' := (20, [some (.inr (.inl 0)), some (.inl i), some (.inl w_)], [.inl w_], n, D, s, p, c)) rfl ?_
      refine tz_lt (x := w_) rfl rfl (by omega) (fun h4 => ?_) (fun h4 => ?_)
      · show tt Zi d 132 (28, [some (.inr (.inl 0)), some (.inl i), some (.inl w_)], [], n, D, s, p, c) _
        have hn5 := wp_n hW (by omega)
        exact tt_thr (q := (11, 923)) rfl rfl (by decide) (by decide) (by omega) (by omega) (Or.inr (Or.inr ⟨rfl, cX_mono (q := q + 1) ⟨hS, bC_x hC (hW).dz (by decide), wp_x hW, fk_x (fk_rf hD), (show fr s s LXR from fr_rf)⟩ (by omega)⟩))
      · show tt Zi d 132 (23, [some (.inr (.inl 0)), some (.inl i), some (.inl w_)], [], n, D, s, p, c) _
        refine tt_k 2 (S' := (25, [some (.inr (.inl 0)), some (.inl i), some (.inl w_)], [.inl 4, .inl w_], n, D, s, p, c)) rfl ?_
        refine tb_lt (x := w_) (y := 4) rfl rfl (by omega) (fun h6 => ?_) (fun h6 => ?_)
        · show tt Zi d 132 (36, [some (.inr (.inl 0)), some (.inl i), some (.inl w_)], [], n, D, s, p, c) _
          refine tt_k 8 (S' := (48, [some (.inr (.inl 0)), some (.inl i), some (.inl w_)], [.inl ((4 * i) + w_), .inr (.inl (p 900))], n, D, s, p, c)) rfl ?_
          refine tt_ilb (i := ((4 * i) + w_)) (m := 1468) (lo := -2147483648) (hi := 2147483647) rfl ((sw_arr (hW).m9 rfl rfl).1) (by omega) hC ((sw_now (hW).m9).1) ?_
          intro v7 b8 hvv7
          show tt Zi d 132 (49, [some (.inr (.inl 0)), some (.inl i), some (.inl w_)], [.inl v7], n, D, s, p, c) _
          exact tt_rti rfl rfl (Or.inl ⟨v7, rfl, by omega, cX_mono (q := q) (show cX q g s p c [] [] (n, D, s, p, c) from ⟨hS, hC, hW, (fk_rf hD), (show fr s s [] from fr_rf)⟩) (by omega)⟩)
        · show tt Zi d 132 (28, [some (.inr (.inl 0)), some (.inl i), some (.inl w_)], [], n, D, s, p, c) _
          have hn9 := wp_n hW (by omega)
          exact tt_thr (q := (11, 923)) rfl rfl (by decide) (by decide) (by omega) (by omega) (Or.inr (Or.inr ⟨rfl, cX_mono (q := q + 1) ⟨hS, bC_x hC (hW).dz (by decide), wp_x hW, fk_x (fk_rf hD), (show fr s s LXR from fr_rf)⟩ (by omega)⟩))
    · show tt Zi d 132 (11, [some (.inr (.inl 0)), some (.inl i), some (.inl w_)], [], n, D, s, p, c) _
      have hn10 := wp_n hW (by omega)
      exact tt_thr (q := (13, 955)) rfl rfl (by decide) (by decide) (by omega) (by omega) (Or.inr (Or.inl ⟨rfl, cX_mono (q := q + 1) ⟨hS, bC_x hC (hW).dz (by decide), wp_x hW, fk_x (fk_rf hD), (show fr s s LXR from fr_rf)⟩ (by omega)⟩))
