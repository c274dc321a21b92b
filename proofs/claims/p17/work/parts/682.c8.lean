/-! the class's small calls -/
set_option maxRecDepth 100000 in
set_option maxHeartbeats 4000000 in
theorem g_at {g : Nat → Int} {Zi : Nat → Option (Nat × (Nat → Int))} {d n q : Nat} {D : Nat → Nat × Nat} {s : Nat → Int} {p : Nat → Nat} {c : Nat → Nat → Int} (hd : 3 ≤ d) (hz : zk Zi) (hq : q + 6 ≤ 400000) (hD : wd n p) (hS : bS s) (hC : bC D c) (hW : wp q g n D p s) (a_ : Int) (x : Int) (y : Int) (b_a_ : -2147483648 ≤ a_ ∧ a_ ≤ 2147483647) (b_x : -2147483648 ≤ x ∧ x ≤ 2147483647) (b_y : -2147483648 ≤ y ∧ y ≤ 2147483647) : tt Zi d 101 (0, [some (.inr (.inl 0)), some (.inl a_), some (.inl x), some (.inl y)], [], n, D, s, p, c) (fun R H => (∃ r : Int, R = .inl (some (.inl r)) ∧ (0 ≤ r ∧ r ≤ 65535) ∧ cXp (q + 1) g s p c [] [] H ∧ ((0 ≤ a_ ∧ a_ < s 102) ∧ (0 ≤ x ∧ x < s 100) ∧ (0 ≤ y ∧ y < s 101)) ∧ (r = c (p 104) ((a_ * s 101 + y) * s 100 + x).toNat)) ∨ (R = .inr 13 ∧ cXp (q + 1) g s p c [] [800, 801, 802, 803, 804, 805, 806, 807, 808, 809] H ∧ ¬ ((0 ≤ a_ ∧ a_ < s 102) ∧ (0 ≤ x ∧ x < s 100) ∧ (0 ≤ y ∧ y < s 101)))) := by
  have b1 : ln D (p 104) ≤ 12288 := (hW).p1.2.2
  have b2 : 1 ≤ (s 100) ∧ (s 100) ≤ 64 := hS 100
  have b3 : 1 ≤ (s 101) ∧ (s 101) ≤ 64 := hS 101
  have b4 : 1 ≤ (s 102) ∧ (s 102) ≤ 3 := hS 102
  have hw1 := hW.w1
  refine tt_k 5 (S' := (7, [some (.inr (.inl 0)), some (.inl a_), some (.inl x), some (.inl y)], [.inl y, .inl x, .inl a_, .inr (.inl 1)], n, D, s, p, c)) rfl ?_
  refine tt_cl (by omega) rfl (g_has1 (Zi := Zi) (q := q) (n := n) (D := D) (s := s) (p := p) (c := c) (by omega) hz (by omega) hD hS hC hW a_ x y (by omega) (by omega) (by omega)) ?_
  rintro _ _ ⟨r5, rfl, rfl, b6, k7⟩
  show tt Zi d 101 (10, [some (.inr (.inl 0)), some (.inl a_), some (.inl x), some (.inl y)], [.inl r5], n, D, s, p, c) _
  replace k7 : r5 = 1 ↔ ((0 ≤ a_ ∧ a_ < (s 102)) ∧ (0 ≤ x ∧ x < (s 100)) ∧ (0 ≤ y ∧ y < (s 101))) := k7
  refine tz_ne (x := r5) rfl rfl (by omega) (fun h8 => ?_) (fun h8 => ?_)
  · show tt Zi d 101 (21, [some (.inr (.inl 0)), some (.inl a_), some (.inl x), some (.inl y)], [], n, D, s, p, c) _
    refine tt_k 8 (S' := (35, [some (.inr (.inl 0)), some (.inl a_), some (.inl x), some (.inl y)], [.inl y, .inl x, .inl a_, .inr (.inl 1), .inr (.inl (p 104))], n, D, s, p, c)) rfl ?_
    refine tt_cl (by omega) rfl (g_index1 (Zi := Zi) (q := q) (n := n) (D := D) (s := s) (p := p) (c := c) (by omega) hz (by omega) hD hS hC hW a_ x y (by omega) (by omega) (by omega) (show a_ < (s 102) ∧ x < (s 100) ∧ y < (s 101) by omega)) ?_
    rintro _ _ ⟨r9, rfl, rfl, b10, k11, k12⟩
    show tt Zi d 101 (38, [some (.inr (.inl 0)), some (.inl a_), some (.inl x), some (.inl y)], [.inl r9, .inr (.inl (p 104))], n, D, s, p, c) _
    replace k11 : r9 = (a_ * (s 101) + y) * (s 100) + x := k11
    replace k12 : r9 + (s 100) - x ≤ (s 100) * (s 101) * (s 102) := k12
    refine tt_ilb (i := r9) (m := (ln D (p 104))) (lo := 0) (hi := 65535) rfl ((hW).p1.1) (by omega) hC ((hW).p1.2.1) ?_
    intro v13 b14 hvv13
    show tt Zi d 101 (39, [some (.inr (.inl 0)), some (.inl a_), some (.inl x), some (.inl y)], [.inl v13], n, D, s, p, c) _
    exact tt_rti rfl rfl (Or.inl ⟨v13, rfl, by omega, ⟨cX_mono (q := q) (show cX q g s p c [] [] (n, D, s, p, c) from ⟨hS, hC, hW, (fk_rf hD), (show fr s s [] from fr_rf)⟩) (by omega), ((frp_rf : frp p p [104, 400, 600, 900, 901, 1203, 1204, 1205, 2103, 2104, 2105, 2504, 2704]) 8 (by decide))⟩, by omega, by rw [← hvv13, k11]⟩)
  · show tt Zi d 101 (13, [some (.inr (.inl 0)), some (.inl a_), some (.inl x), some (.inl y)], [], n, D, s, p, c) _
    have hn15 := wp_n hW (by omega)
    exact tt_thr (q := (13, 955)) rfl rfl (by decide) (by decide) (by omega) (by omega) (Or.inr ⟨rfl, cXp_mono (q := q + 1) ⟨⟨hS, bC_x hC (hW).dz (by decide), wp_x hW, fk_x (fk_rf hD), (show fr s s [800, 801, 802, 803, 804, 805, 806, 807, 808, 809] from fr_rf)⟩, ((frp_rf : frp p p [104, 400, 600, 900, 901, 1203, 1204, 1205, 2103, 2104, 2105, 2504, 2704]) 8 (by decide))⟩ (by omega), by omega⟩)
set_option maxRecDepth 100000 in
set_option maxHeartbeats 4000000 in
theorem g_place {g : Nat → Int} {Zi : Nat → Option (Nat × (Nat → Int))} {d n q : Nat} {D : Nat → Nat × Nat} {s : Nat → Int} {p : Nat → Nat} {c : Nat → Nat → Int} (hd : 0 ≤ d) (hz : zk Zi) (hq : q + 0 ≤ 400000) (hD : wd n p) (hS : bS s) (hC : bC D c) (hW : wp q g n D p s)  : tt Zi d 91 (0, [some (.inr (.inl 0))], [], n, D, s, p, c) (fun R H => (∃ r : Int, R = .inl (some (.inl r)) ∧ (-1 ≤ r ∧ r ≤ 100000) ∧ cXp (q + 1) g s p c [] [] H)) := by
  refine tt_k 2 (S' := (4, [some (.inr (.inl 0))], [.inl (s 11)], n, D, s, p, c)) rfl ?_
  have b1 : -1 ≤ (s 11) ∧ (s 11) ≤ 100000 := hS 11
  exact tt_rti rfl rfl ⟨(s 11), rfl, by omega, ⟨cX_mono (q := q) (show cX q g s p c [] [] (n, D, s, p, c) from ⟨hS, hC, hW, (fk_rf hD), (show fr s s [] from fr_rf)⟩) (by omega), ((frp_rf : frp p p [104, 400, 600, 900, 901, 1203, 1204, 1205, 2103, 2104, 2105, 2504, 2704]) 8 (by decide))⟩⟩
