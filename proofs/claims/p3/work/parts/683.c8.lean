/-! the class draws, packs, unpacks -/
set_option maxRecDepth 100000 in
set_option maxHeartbeats 4000000 in
theorem g_draw_L115 {g : Nat → Int} {Zi : Nat → Option (Nat × (Nat → Int))} {d n q : Nat} {D : Nat → Nat × Nat} {s : Nat → Int} {p : Nat → Nat} {c : Nat → Nat → Int}  {Q : mi_Rs → mi_H → Prop} (hd : 3 ≤ d) (hz : zk Zi) (hq : q + 6 ≤ 400001) (hS : bS s) (hC : bC D c) (hW : wp q g n D p s) (a_ : Int) (x : Int) (y : Int) (wide : Int) (high : Int) (v : Int) (u : Int) (mask : Int) (gr : Int) (fi : Int) (j : Int) (b_a_ : 0 ≤ a_ ∧ a_ ≤ 2) (b_x : 0 ≤ x ∧ x ≤ 63) (b_y : 0 ≤ y ∧ y ≤ 63) (b_wide : 1 ≤ wide ∧ wide ≤ 64) (b_high : 1 ≤ high ∧ high ≤ 64) (b_v : 0 ≤ v ∧ v ≤ 65535) (b_u : 0 ≤ u ∧ u ≤ 65535) (b_mask : 0 ≤ mask ∧ mask ≤ 65535) (b_gr : 3 ≤ gr ∧ gr ≤ 65535) (b_fi : 0 ≤ fi ∧ fi ≤ 12287) (b_j : 0 ≤ j ∧ j ≤ 63) (hq0 : a_ < s 102 ∧ x + wide ≤ s 100 ∧ y + high ≤ s 101) (hq1 : fi = (a_ * s 101 + y) * s 100 + x) (hq2 : j < high)
  (hK : ∀ (i : Int) (o_13 : Option mi_V) (o_14 : Option mi_V) (c0 : Nat → Nat → Int) (b_i : 0 ≤ i ∧ i ≤ 64) (hC0 : bC D c0) (i0 : i ≤ wide), (True) → tt Zi d 95 (204, [some (.inr (.inl 0)), some (.inl a_), some (.inl x), some (.inl y), some (.inl wide), some (.inl high), some (.inl v), some (.inl u), some (.inl mask), some (.inl gr), some (.inl fi), some (.inl j), some (.inl i), o_13, o_14], [], n, D, s, p, c0) Q) :
  ∀ (m : Nat) (i : Int) (o_13 : Option mi_V) (o_14 : Option mi_V) (c0 : Nat → Nat → Int) (b_i : 0 ≤ i ∧ i ≤ 64) (hC0 : bC D c0) (i0 : i ≤ wide), (wide - i).toNat < m → tt Zi d 95 (115, [some (.inr (.inl 0)), some (.inl a_), some (.inl x), some (.inl y), some (.inl wide), some (.inl high), some (.inl v), some (.inl u), some (.inl mask), some (.inl gr), some (.inl fi), some (.inl j), some (.inl i), o_13, o_14], [], n, D, s, p, c0) Q := by
  intro m
  induction m with
  | zero => intro i o_13 o_14 c0 b_i hC0 i0 hm; exact absurd hm (by omega)
  | succ m ih =>
    intro i o_13 o_14 c0 b_i hC0 i0 hm
    refine tt_k 2 (S' := (119, [some (.inr (.inl 0)), some (.inl a_), some (.inl x), some (.inl y), some (.inl wide), some (.inl high), some (.inl v), some (.inl u), some (.inl mask), some (.inl gr), some (.inl fi), some (.inl j), some (.inl i), o_13, o_14], [.inl wide, .inl i], n, D, s, p, c0)) rfl ?_
    refine tb_ge (x := i) (y := wide) rfl rfl (by omega) (fun h1 => ?_) (fun h1 => ?_)
    · show tt Zi d 95 (204, [some (.inr (.inl 0)), some (.inl a_), some (.inl x), some (.inl y), some (.inl wide), some (.inl high), some (.inl v), some (.inl u), some (.inl mask), some (.inl gr), some (.inl fi), some (.inl j), some (.inl i), o_13, o_14], [], n, D, s, p, c0) _
      exact hK i (o_13) (o_14) c0 (by omega) hC0 (show i ≤ wide by omega) trivial
    · show tt Zi d 95 (122, [some (.inr (.inl 0)), some (.inl a_), some (.inl x), some (.inl y), some (.inl wide), some (.inl high), some (.inl v), some (.inl u), some (.inl mask), some (.inl gr), some (.inl fi), some (.inl j), some (.inl i), o_13, o_14], [], n, D, s, p, c0) _
      refine tt_k 11 (S' := (140, [some (.inr (.inl 0)), some (.inl a_), some (.inl x), some (.inl y), some (.inl wide), some (.inl high), some (.inl v), some (.inl u), some (.inl mask), some (.inl gr), some (.inl fi), some (.inl j), some (.inl i), o_13, o_14], [.inl (wide + high), .inl ((u - v) * (i + j)), .inl v], n, D, s, p, c0)) rfl ?_
      have m2 := mul_bd (e := (u - v)) (st := (i + j)) (a := 65535) (b := 126) (by omega) (by omega) (by omega) (by omega) (by omega)
      refine tt_div (x := ((u - v) * (i + j))) (y := (wide + high)) rfl (by omega) ?_
      show tt Zi d 95 (141, [some (.inr (.inl 0)), some (.inl a_), some (.inl x), some (.inl y), some (.inl wide), some (.inl high), some (.inl v), some (.inl u), some (.inl mask), some (.inl gr), some (.inl fi), some (.inl j), some (.inl i), o_13, o_14], [.inl ((Int.tdiv ((u - v) * (i + j)) (wide + high))), .inl v], n, D, s, p, c0) _
      have b3 := tdv_bd (x := ((u - v) * (i + j))) (y := (wide + high)) (a := 8257410) (by omega) (by omega) (by omega)
      refine tt_k 8 (S' := (154, [some (.inr (.inl 0)), some (.inl a_), some (.inl x), some (.inl y), some (.inl wide), some (.inl high), some (.inl v), some (.inl u), some (.inl mask), some (.inl gr), some (.inl fi), some (.inl j), some (.inl i), some (.inl ((v + (Int.tdiv ((u - v) * (i + j)) (wide + high))))), o_14], [.inl (i + (wide * j)), .inl ((v + (Int.tdiv ((u - v) * (i + j)) (wide + high))))], n, D, s, p, c0)) rfl ?_
      have m4 := mul_bd (e := wide) (st := j) (a := 64) (b := 63) (by omega) (by omega) (by omega) (by omega) (by omega)
      refine tt_cl (by omega) rfl (g_noise (Zi := Zi) (q := q) (n := n) (D := D) (s := s) (p := p) (c := c0) (by omega) hz (by omega) hS hC0 hW (i + (wide * j)) (by omega)) ?_
      rintro _ _ ⟨r5, rfl, rfl, b6⟩
      show tt Zi d 95 (157, [some (.inr (.inl 0)), some (.inl a_), some (.inl x), some (.inl y), some (.inl wide), some (.inl high), some (.inl v), some (.inl u), some (.inl mask), some (.inl gr), some (.inl fi), some (.inl j), some (.inl i), some (.inl ((v + (Int.tdiv ((u - v) * (i + j)) (wide + high))))), o_14], [.inl r5, .inl ((v + (Int.tdiv ((u - v) * (i + j)) (wide + high))))], n, D, s, p, c0) _
      refine tt_k 4 (S' := (163, [some (.inr (.inl 0)), some (.inl a_), some (.inl x), some (.inl y), some (.inl wide), some (.inl high), some (.inl v), some (.inl u), some (.inl mask), some (.inl gr), some (.inl fi), some (.inl j), some (.inl i), some (.inl ((v + (Int.tdiv ((u - v) * (i + j)) (wide + high))))), some (.inl (((v + (Int.tdiv ((u - v) * (i + j)) (wide + high))) + (mi_and r5 mask))))], [], n, D, s, p, c0)) rfl ?_
      have b7 : 1 ≤ (s 100) ∧ (s 100) ≤ 64 := hS 100
      have b8 : 1 ≤ (s 101) ∧ (s 101) ≤ 64 := hS 101
      have b9 : 1 ≤ (s 102) ∧ (s 102) ≤ 3 := hS 102
      have b10 : ln D (p 104) ≤ 12288 := (hW).p1.2.2
      have hix := ix_bd (a := a_) (h := s 101) (y := y + j) (w := s 100) (x := x + i) (pl := s 102) (by omega) (by omega) (by omega) (by omega) (by omega) (by omega) (by omega) (by omega) (by omega)
      have hw1 := hW.w1
      have hex : (a_ * s 101 + (y + j)) * s 100 + (x + i) = (a_ * s 101 + y) * s 100 + x + j * s 100 + i := by rw [show a_ * s 101 + (y + j) = a_ * s 101 + y + j by omega, Int.add_mul (a_ * s 101 + y) j (s 100)]; omega
      refine tt_k 14 (S' := (189, [some (.inr (.inl 0)), some (.inl a_), some (.inl x), some (.inl y), some (.inl wide), some (.inl high), some (.inl v), some (.inl u), some (.inl mask), some (.inl gr), some (.inl fi), some (.inl j), some (.inl i), some (.inl ((v + (Int.tdiv ((u - v) * (i + j)) (wide + high))))), some (.inl (((v + (Int.tdiv ((u - v) * (i + j)) (wide + high))) + (mi_and r5 mask))))], [.inl gr, .inl 0, .inl (((fi + (j * (s 100))) + i)), .inr (.inl (p 104))], n, D, s, p, c0)) rfl ?_
      refine tt_k 1 (S' := (191, [some (.inr (.inl 0)), some (.inl a_), some (.inl x), some (.inl y), some (.inl wide), some (.inl high), some (.inl v), some (.inl u), some (.inl mask), some (.inl gr), some (.inl fi), some (.inl j), some (.inl i), some (.inl ((v + (Int.tdiv ((u - v) * (i + j)) (wide + high))))), some (.inl (((v + (Int.tdiv ((u - v) * (i + j)) (wide + high))) + (mi_and r5 mask))))], [.inl (((v + (Int.tdiv ((u - v) * (i + j)) (wide + high))) + (mi_and r5 mask))), .inl gr, .inl 0, .inl (((fi + (j * (s 100))) + i)), .inr (.inl (p 104))], n, D, s, p, c0)) rfl ?_
      have e11 := mi_and_bd r5 (m := mask) (by omega) (by omega)
      refine tt_min (k := 0) (x := gr) (y := ((v + (Int.tdiv ((u - v) * (i + j)) (wide + high))) + (mi_and r5 mask))) rfl rfl (Nat.le_of_ble_eq_true rfl) (by omega) ?_
      refine tt_max (k := 0) (x := 0) (y := (min gr ((v + (Int.tdiv ((u - v) * (i + j)) (wide + high))) + (mi_and r5 mask)))) rfl rfl (Nat.le_of_ble_eq_true rfl) (by omega) ?_
      have m12 := mul_bd (e := j) (st := (s 100)) (a := 63) (b := 64) (by omega) (by omega) (by omega) (by omega) (by omega)
      refine tt_isb (i := ((fi + (j * (s 100))) + i)) (m := (ln D (p 104))) (lo := 0) (hi := 65535) (x := (max 0 (min gr ((v + (Int.tdiv ((u - v) * (i + j)) (wide + high))) + (mi_and r5 mask))))) rfl ((hW).p1.1) (by omega) hC0 ((hW).p1.2.1) (by omega) ?_
      intro c13 hC13
      show tt Zi d 95 (198, [some (.inr (.inl 0)), some (.inl a_), some (.inl x), some (.inl y), some (.inl wide), some (.inl high), some (.inl v), some (.inl u), some (.inl mask), some (.inl gr), some (.inl fi), some (.inl j), some (.inl i), some (.inl ((v + (Int.tdiv ((u - v) * (i + j)) (wide + high))))), some (.inl (((v + (Int.tdiv ((u - v) * (i + j)) (wide + high))) + (mi_and r5 mask))))], [], n, D, s, p, c13) _
      refine tt_k 2 (S' := (115, [some (.inr (.inl 0)), some (.inl a_), some (.inl x), some (.inl y), some (.inl wide), some (.inl high), some (.inl v), some (.inl u), some (.inl mask), some (.inl gr), some (.inl fi), some (.inl j), some (.inl (i + 1)), some (.inl ((v + (Int.tdiv ((u - v) * (i + j)) (wide + high))))), some (.inl (((v + (Int.tdiv ((u - v) * (i + j)) (wide + high))) + (mi_and r5 mask))))], [], n, D, s, p, c13)) rfl ?_
      exact ih (i + 1) (some (.inl ((v + (Int.tdiv ((u - v) * (i + j)) (wide + high)))))) (some (.inl (((v + (Int.tdiv ((u - v) * (i + j)) (wide + high))) + (mi_and r5 mask))))) c13 (by omega) hC13 (show (i + 1) ≤ wide by omega) (show (wide - (i + 1)).toNat < m by omega)

set_option maxRecDepth 100000 in
set_option maxHeartbeats 4000000 in
theorem g_draw_L105 {g : Nat → Int} {Zi : Nat → Option (Nat × (Nat → Int))} {d n q : Nat} {D : Nat → Nat × Nat} {s : Nat → Int} {p : Nat → Nat} {c : Nat → Nat → Int}  {Q : mi_Rs → mi_H → Prop} (hd : 3 ≤ d) (hz : zk Zi) (hq : q + 6 ≤ 400001) (hS : bS s) (hC : bC D c) (hW : wp q g n D p s) (a_ : Int) (x : Int) (y : Int) (wide : Int) (high : Int) (v : Int) (u : Int) (mask : Int) (gr : Int) (fi : Int) (b_a_ : 0 ≤ a_ ∧ a_ ≤ 2) (b_x : 0 ≤ x ∧ x ≤ 63) (b_y : 0 ≤ y ∧ y ≤ 63) (b_wide : 1 ≤ wide ∧ wide ≤ 64) (b_high : 1 ≤ high ∧ high ≤ 64) (b_v : 0 ≤ v ∧ v ≤ 65535) (b_u : 0 ≤ u ∧ u ≤ 65535) (b_mask : 0 ≤ mask ∧ mask ≤ 65535) (b_gr : 3 ≤ gr ∧ gr ≤ 65535) (b_fi : 0 ≤ fi ∧ fi ≤ 12287) (hq0 : a_ < s 102 ∧ x + wide ≤ s 100 ∧ y + high ≤ s 101) (hq1 : fi = (a_ * s 101 + y) * s 100 + x)
  (hK : ∀ (j : Int) (o_12 : Option mi_V) (o_13 : Option mi_V) (o_14 : Option mi_V) (c0 : Nat → Nat → Int) (b_j : 0 ≤ j ∧ j ≤ 64) (hC0 : bC D c0) (i0 : j ≤ high), (True) → tt Zi d 95 (210, [some (.inr (.inl 0)), some (.inl a_), some (.inl x), some (.inl y), some (.inl wide), some (.inl high), some (.inl v), some (.inl u), some (.inl mask), some (.inl gr), some (.inl fi), some (.inl j), o_12, o_13, o_14], [], n, D, s, p, c0) Q) :
  ∀ (m : Nat) (j : Int) (o_12 : Option mi_V) (o_13 : Option mi_V) (o_14 : Option mi_V) (c0 : Nat → Nat → Int) (b_j : 0 ≤ j ∧ j ≤ 64) (hC0 : bC D c0) (i0 : j ≤ high), (high - j).toNat < m → tt Zi d 95 (105, [some (.inr (.inl 0)), some (.inl a_), some (.inl x), some (.inl y), some (.inl wide), some (.inl high), some (.inl v), some (.inl u), some (.inl mask), some (.inl gr), some (.inl fi), some (.inl j), o_12, o_13, o_14], [], n, D, s, p, c0) Q := by
  intro m
  induction m with
  | zero => intro j o_12 o_13 o_14 c0 b_j hC0 i0 hm; exact absurd hm (by omega)
  | succ m ih =>
    intro j o_12 o_13 o_14 c0 b_j hC0 i0 hm
    refine tt_k 2 (S' := (109, [some (.inr (.inl 0)), some (.inl a_), some (.inl x), some (.inl y), some (.inl wide), some (.inl high), some (.inl v), some (.inl u), some (.inl mask), some (.inl gr), some (.inl fi), some (.inl j), o_12, o_13, o_14], [.inl high, .inl j], n, D, s, p, c0)) rfl ?_
    refine tb_ge (x := j) (y := high) rfl rfl (by omega) (fun h1 => ?_) (fun h1 => ?_)
    · show tt Zi d 95 (210, [some (.inr (.inl 0)), some (.inl a_), some (.inl x), some (.inl y), some (.inl wide), some (.inl high), some (.inl v), some (.inl u), some (.inl mask), some (.inl gr), some (.inl fi), some (.inl j), o_12, o_13, o_14], [], n, D, s, p, c0) _
      exact hK j (o_12) (o_13) (o_14) c0 (by omega) hC0 (show j ≤ high by omega) trivial
    · show tt Zi d 95 (112, [some (.inr (.inl 0)), some (.inl a_), some (.inl x), some (.inl y), some (.inl wide), some (.inl high), some (.inl v), some (.inl u), some (.inl mask), some (.inl gr), some (.inl fi), some (.inl j), o_12, o_13, o_14], [], n, D, s, p, c0) _
      refine tt_k 2 (S' := (115, [some (.inr (.inl 0)), some (.inl a_), some (.inl x), some (.inl y), some (.inl wide), some (.inl high), some (.inl v), some (.inl u), some (.inl mask), some (.inl gr), some (.inl fi), some (.inl j), some (.inl 0), o_13, o_14], [], n, D, s, p, c0)) rfl ?_
      have b2 : 1 ≤ (s 102) ∧ (s 102) ≤ 3 := hS 102
      have b3 : 1 ≤ (s 100) ∧ (s 100) ≤ 64 := hS 100
      have b4 : 1 ≤ (s 101) ∧ (s 101) ≤ 64 := hS 101
      refine g_draw_L115 (Zi := Zi) (q := q) (n := n) (D := D) (s := s) (p := p) (c := c0) hd hz (by omega) hS hC0 hW  a_ x y wide high v u mask gr fi j (by omega) (by omega) (by omega) (by omega) (by omega) (by omega) (by omega) (by omega) (by omega) (by omega) (by omega) (show a_ < (s 102) ∧ x + wide ≤ (s 100) ∧ y + high ≤ (s 101) by omega) (show fi = (a_ * (s 101) + y) * (s 100) + x by omega) (show j < high by omega)  ?_ _ 0 (o_13) (o_14) c0 (by omega) hC0 (show 0 ≤ wide by omega) (Nat.lt_succ_self _)
      intro x5 x6 x7 c8 b9 hC8 i10 hx11
      show tt Zi d 95 (204, [some (.inr (.inl 0)), some (.inl a_), some (.inl x), some (.inl y), some (.inl wide), some (.inl high), some (.inl v), some (.inl u), some (.inl mask), some (.inl gr), some (.inl fi), some (.inl j), some (.inl x5), x6, x7], [], n, D, s, p, c8) _
      replace i10 : x5 ≤ wide := i10
      refine tt_k 2 (S' := (105, [some (.inr (.inl 0)), some (.inl a_), some (.inl x), some (.inl y), some (.inl wide), some (.inl high), some (.inl v), some (.inl u), some (.inl mask), some (.inl gr), some (.inl fi), some (.inl (j + 1)), some (.inl x5), x6, x7], [], n, D, s, p, c8)) rfl ?_
      exact ih (j + 1) (some (.inl x5)) (x6) (x7) c8 (by omega) hC8 (show (j + 1) ≤ high by omega) (show (high - (j + 1)).toNat < m by omega)
set_option maxRecDepth 100000 in
set_option maxHeartbeats 4000000 in
theorem g_draw {g : Nat → Int} {Zi : Nat → Option (Nat × (Nat → Int))} {d n q : Nat} {D : Nat → Nat × Nat} {s : Nat → Int} {p : Nat → Nat} {c : Nat → Nat → Int} (hd : 3 ≤ d) (hz : zk Zi) (hq : q + 6 ≤ 400000) (hS : bS s) (hC : bC D c) (hW : wp q g n D p s) (a_ : Int) (x : Int) (y : Int) (wide : Int) (high : Int) (v : Int) (u : Int) (mask : Int) (b_a_ : -2147483648 ≤ a_ ∧ a_ ≤ 2147483647) (b_x : -2147483648 ≤ x ∧ x ≤ 2147483647) (b_y : -2147483648 ≤ y ∧ y ≤ 2147483647) (b_wide : -2147483648 ≤ wide ∧ wide ≤ 2147483647) (b_high : -2147483648 ≤ high ∧ high ≤ 2147483647) (b_v : -2147483648 ≤ v ∧ v ≤ 2147483647) (b_u : -2147483648 ≤ u ∧ u ≤ 2147483647) (b_mask : -2147483648 ≤ mask ∧ mask ≤ 2147483647) : tt Zi d 95 (0, [some (.inr (.inl 0)), some (.inl a_), some (.inl x), some (.inl y), some (.inl wide), some (.inl high), some (.inl v), some (.inl u), some (.inl mask), none, none, none, none, none, none], [], n, D, s, p, c) (fun R H => (R = .inl none ∧ cW (q + 1) g H ∧ ((0 ≤ a_ ∧ a_ < s 102 ∧ 0 < wide ∧ 0 < high ∧ 0 ≤ x ∧ 0 ≤ y ∧ x < s 100 ∧ y < s 101 ∧ wide ≤ s 100 - x ∧ high ≤ s 101 - y) ∧ ((0 ≤ v ∧ v ≤ mi_shl 1 (s 103) - 1) ∧ (0 ≤ u ∧ u ≤ mi_shl 1 (s 103) - 1) ∧ (0 ≤ mask ∧ mask ≤ 65535)))) ∨ (R = .inr 13 ∧ cW (q + 1) g H ∧ ¬ (0 ≤ a_ ∧ a_ < s 102 ∧ 0 < wide ∧ 0 < high ∧ 0 ≤ x ∧ 0 ≤ y ∧ x < s 100 ∧ y < s 101 ∧ wide ≤ s 100 - x ∧ high ≤ s 101 - y)) ∨ (R = .inr 11 ∧ cW (q + 1) g H ∧ (0 ≤ a_ ∧ a_ < s 102 ∧ 0 < wide ∧ 0 < high ∧ 0 ≤ x ∧ 0 ≤ y ∧ x < s 100 ∧ y < s 101 ∧ wide ≤ s 100 - x ∧ high ≤ s 101 - y) ∧ ¬ ((0 ≤ v ∧ v ≤ mi_shl 1 (s 103) - 1) ∧ (0 ≤ u ∧ u ≤ mi_shl 1 (s 103) - 1) ∧ (0 ≤ mask ∧ mask ≤ 65535)))) := by
  refine tt_k 5 (S' := (7, [some (.inr (.inl 0)), some (.inl a_), some (.inl x), some (.inl y), some (.inl wide), some (.inl high), some (.inl v), some (.inl u), some (.inl mask), none, none, none, none, none, none], [.inl y, .inl x, .inl a_, .inr (.inl 1)], n, D, s, p, c)) rfl ?_
  refine tt_cl (by omega) rfl (g_has1 (Zi := Zi) (q := q) (n := n) (D := D) (s := s) (p := p) (c := c) (by omega) hz (by omega) hS hC hW a_ x y (by omega) (by omega) (by omega)) ?_
  rintro _ _ ⟨r1, rfl, rfl, b2, k3⟩
  show tt Zi d 95 (10, [some (.inr (.inl 0)), some (.inl a_), some (.inl x), some (.inl y), some (.inl wide), some (.inl high), some (.inl v), some (.inl u), some (.inl mask), none, none, none, none, none, none], [.inl r1], n, D, s, p, c) _
  replace k3 : r1 = 1 ↔ ((0 ≤ a_ ∧ a_ < (s 102)) ∧ (0 ≤ x ∧ x < (s 100)) ∧ (0 ≤ y ∧ y < (s 101))) := k3
  have b4 : 1 ≤ (s 102) ∧ (s 102) ≤ 3 := hS 102
  have b5 : 1 ≤ (s 100) ∧ (s 100) ≤ 64 := hS 100
  have b6 : 1 ≤ (s 101) ∧ (s 101) ≤ 64 := hS 101
  refine tz_eq (x := r1) rfl rfl (by omega) (fun h7 => ?_) (fun h7 => ?_)
  · show tt Zi d 95 (29, [some (.inr (.inl 0)), some (.inl a_), some (.inl x), some (.inl y), some (.inl wide), some (.inl high), some (.inl v), some (.inl u), some (.inl mask), none, none, none, none, none, none], [], n, D, s, p, c) _
    have hn8 := wp_n hW (by omega)
    exact tt_thr (q := (13, 955)) rfl rfl (by decide) (by decide) (by omega) (by omega) (Or.inr (Or.inl ⟨rfl, cW_mono (q := q + 1) ⟨hS, bC_x hC (hW).dz (by decide), wp_x hW⟩ (by omega), by omega⟩))
  · show tt Zi d 95 (13, [some (.inr (.inl 0)), some (.inl a_), some (.inl x), some (.inl y), some (.inl wide), some (.inl high), some (.inl v), some (.inl u), some (.inl mask), none, none, none, none, none, none], [], n, D, s, p, c) _
    refine tt_k 6 (S' := (23, [some (.inr (.inl 0)), some (.inl a_), some (.inl x), some (.inl y), some (.inl wide), some (.inl high), some (.inl v), some (.inl u), some (.inl mask), none, none, none, none, none, none], [.inl high, .inl wide, .inl y, .inl x, .inr (.inl 1)], n, D, s, p, c)) rfl ?_
    refine tt_cl (by omega) rfl (g_hasRoom1 (Zi := Zi) (q := q) (n := n) (D := D) (s := s) (p := p) (c := c) (by omega) hz (by omega) hS hC hW x y wide high (by omega) (by omega) (by omega) (by omega)) ?_
    rintro _ _ ⟨r9, rfl, rfl, b10, k11⟩
    show tt Zi d 95 (26, [some (.inr (.inl 0)), some (.inl a_), some (.inl x), some (.inl y), some (.inl wide), some (.inl high), some (.inl v), some (.inl u), some (.inl mask), none, none, none, none, none, none], [.inl r9], n, D, s, p, c) _
    replace k11 : r9 = 1 ↔ ((1 ≤ wide ∧ wide ≤ (s 100) - x) ∧ (1 ≤ high ∧ high ≤ (s 101) - y)) := k11
    refine tz_ne (x := r9) rfl rfl (by omega) (fun h12 => ?_) (fun h12 => ?_)
    · show tt Zi d 95 (37, [some (.inr (.inl 0)), some (.inl a_), some (.inl x), some (.inl y), some (.inl wide), some (.inl high), some (.inl v), some (.inl u), some (.inl mask), none, none, none, none, none, none], [], n, D, s, p, c) _
      refine tt_k 2 (S' := (41, [some (.inr (.inl 0)), some (.inl a_), some (.inl x), some (.inl y), some (.inl wide), some (.inl high), some (.inl v), some (.inl u), some (.inl mask), none, none, none, none, none, none], [.inr (.inl 1)], n, D, s, p, c)) rfl ?_
      refine tt_cl (by omega) rfl (g_greatest1 (Zi := Zi) (q := q) (n := n) (D := D) (s := s) (p := p) (c := c) (by omega) hz (by omega) hS hC hW ) ?_
      rintro _ _ ⟨r13, rfl, rfl, b14, k15⟩
      show tt Zi d 95 (44, [some (.inr (.inl 0)), some (.inl a_), some (.inl x), some (.inl y), some (.inl wide), some (.inl high), some (.inl v), some (.inl u), some (.inl mask), none, none, none, none, none, none], [.inl r13], n, D, s, p, c) _
      replace k15 : r13 = mi_shl 1 ((s 103)) - 1 := k15
      have b16 : 2 ≤ (s 103) ∧ (s 103) ≤ 16 := hS 103
      refine tt_k 2 (S' := (48, [some (.inr (.inl 0)), some (.inl a_), some (.inl x), some (.inl y), some (.inl wide), some (.inl high), some (.inl v), some (.inl u), some (.inl mask), some (.inl r13), none, none, none, none, none], [.inl v], n, D, s, p, c)) rfl ?_
      refine tz_lt (x := v) rfl rfl (by omega) (fun h17 => ?_) (fun h17 => ?_)
      · show tt Zi d 95 (82, [some (.inr (.inl 0)), some (.inl a_), some (.inl x), some (.inl y), some (.inl wide), some (.inl high), some (.inl v), some (.inl u), some (.inl mask), some (.inl r13), none, none, none, none, none], [], n, D, s, p, c) _
        have hn18 := wp_n hW (by omega)
        exact tt_thr (q := (11, 923)) rfl rfl (by decide) (by decide) (by omega) (by omega) (Or.inr (Or.inr ⟨rfl, cW_mono (q := q + 1) ⟨hS, bC_x hC (hW).dz (by decide), wp_x hW⟩ (by omega), by omega⟩))
      · show tt Zi d 95 (51, [some (.inr (.inl 0)), some (.inl a_), some (.inl x), some (.inl y), some (.inl wide), some (.inl high), some (.inl v), some (.inl u), some (.inl mask), some (.inl r13), none, none, none, none, none], [], n, D, s, p, c) _
        refine tt_k 2 (S' := (55, [some (.inr (.inl 0)), some (.inl a_), some (.inl x), some (.inl y), some (.inl wide), some (.inl high), some (.inl v), some (.inl u), some (.inl mask), some (.inl r13), none, none, none, none, none], [.inl r13, .inl v], n, D, s, p, c)) rfl ?_
        refine tb_gt (x := v) (y := r13) rfl rfl (by omega) (fun h19 => ?_) (fun h19 => ?_)
        · show tt Zi d 95 (82, [some (.inr (.inl 0)), some (.inl a_), some (.inl x), some (.inl y), some (.inl wide), some (.inl high), some (.inl v), some (.inl u), some (.inl mask), some (.inl r13), none, none, none, none, none], [], n, D, s, p, c) _
          have hn20 := wp_n hW (by omega)
          exact tt_thr (q := (11, 923)) rfl rfl (by decide) (by decide) (by omega) (by omega) (Or.inr (Or.inr ⟨rfl, cW_mono (q := q + 1) ⟨hS, bC_x hC (hW).dz (by decide), wp_x hW⟩ (by omega), by omega⟩))
        · show tt Zi d 95 (58, [some (.inr (.inl 0)), some (.inl a_), some (.inl x), some (.inl y), some (.inl wide), some (.inl high), some (.inl v), some (.inl u), some (.inl mask), some (.inl r13), none, none, none, none, none], [], n, D, s, p, c) _
          refine tt_k 1 (S' := (60, [some (.inr (.inl 0)), some (.inl a_), some (.inl x), some (.inl y), some (.inl wide), some (.inl high), some (.inl v), some (.inl u), some (.inl mask), some (.inl r13), none, none, none, none, none], [.inl u], n, D, s, p, c)) rfl ?_
          refine tz_lt (x := u) rfl rfl (by omega) (fun h21 => ?_) (fun h21 => ?_)
          · show tt Zi d 95 (82, [some (.inr (.inl 0)), some (.inl a_), some (.inl x), some (.inl y), some (.inl wide), some (.inl high), some (.inl v), some (.inl u), some (.inl mask), some (.inl r13), none, none, none, none, none], [], n, D, s, p, c) _
            have hn22 := wp_n hW (by omega)
            exact tt_thr (q := (11, 923)) rfl rfl (by decide) (by decide) (by omega) (by omega) (Or.inr (Or.inr ⟨rfl, cW_mono (q := q + 1) ⟨hS, bC_x hC (hW).dz (by decide), wp_x hW⟩ (by omega), by omega⟩))
          · show tt Zi d 95 (63, [some (.inr (.inl 0)), some (.inl a_), some (.inl x), some (.inl y), some (.inl wide), some (.inl high), some (.inl v), some (.inl u), some (.inl mask), some (.inl r13), none, none, none, none, none], [], n, D, s, p, c) _
            refine tt_k 2 (S' := (67, [some (.inr (.inl 0)), some (.inl a_), some (.inl x), some (.inl y), some (.inl wide), some (.inl high), some (.inl v), some (.inl u), some (.inl mask), some (.inl r13), none, none, none, none, none], [.inl r13, .inl u], n, D, s, p, c)) rfl ?_
            refine tb_gt (x := u) (y := r13) rfl rfl (by omega) (fun h23 => ?_) (fun h23 => ?_)
            · show tt Zi d 95 (82, [some (.inr (.inl 0)), some (.inl a_), some (.inl x), some (.inl y), some (.inl wide), some (.inl high), some (.inl v), some (.inl u), some (.inl mask), some (.inl r13), none, none, none, none, none], [], n, D, s, p, c) _
              have hn24 := wp_n hW (by omega)
              exact tt_thr (q := (11, 923)) rfl rfl (by decide) (by decide) (by omega) (by omega) (Or.inr (Or.inr ⟨rfl, cW_mono (q := q + 1) ⟨hS, bC_x hC (hW).dz (by decide), wp_x hW⟩ (by omega), by omega⟩))
            · show tt Zi d 95 (70, [some (.inr (.inl 0)), some (.inl a_), some (.inl x), some (.inl y), some (.inl wide), some (.inl high), some (.inl v), some (.inl u), some (.inl mask), some (.inl r13), none, none, none, none, none], [], n, D, s, p, c) _
              refine tt_k 1 (S' := (72, [some (.inr (.inl 0)), some (.inl a_), some (.inl x), some (.inl y), some (.inl wide), some (.inl high), some (.inl v), some (.inl u), some (.inl mask), some (.inl r13), none, none, none, none, none], [.inl mask], n, D, s, p, c)) rfl ?_
              refine tz_lt (x := mask) rfl rfl (by omega) (fun h25 => ?_) (fun h25 => ?_)
              · show tt Zi d 95 (82, [some (.inr (.inl 0)), some (.inl a_), some (.inl x), some (.inl y), some (.inl wide), some (.inl high), some (.inl v), some (.inl u), some (.inl mask), some (.inl r13), none, none, none, none, none], [], n, D, s, p, c) _
                have hn26 := wp_n hW (by omega)
                exact tt_thr (q := (11, 923)) rfl rfl (by decide) (by decide) (by omega) (by omega) (Or.inr (Or.inr ⟨rfl, cW_mono (q := q + 1) ⟨hS, bC_x hC (hW).dz (by decide), wp_x hW⟩ (by omega), by omega⟩))
              · show tt Zi d 95 (75, [some (.inr (.inl 0)), some (.inl a_), some (.inl x), some (.inl y), some (.inl wide), some (.inl high), some (.inl v), some (.inl u), some (.inl mask), some (.inl r13), none, none, none, none, none], [], n, D, s, p, c) _
                refine tt_k 2 (S' := (79, [some (.inr (.inl 0)), some (.inl a_), some (.inl x), some (.inl y), some (.inl wide), some (.inl high), some (.inl v), some (.inl u), some (.inl mask), some (.inl r13), none, none, none, none, none], [.inl 65535, .inl mask], n, D, s, p, c)) rfl ?_
                refine tb_le (x := mask) (y := 65535) rfl rfl (by omega) (fun h27 => ?_) (fun h27 => ?_)
                · show tt Zi d 95 (90, [some (.inr (.inl 0)), some (.inl a_), some (.inl x), some (.inl y), some (.inl wide), some (.inl high), some (.inl v), some (.inl u), some (.inl mask), some (.inl r13), none, none, none, none, none], [], n, D, s, p, c) _
                  refine tt_k 5 (S' := (97, [some (.inr (.inl 0)), some (.inl a_), some (.inl x), some (.inl y), some (.inl wide), some (.inl high), some (.inl v), some (.inl u), some (.inl mask), some (.inl r13), none, none, none, none, none], [.inl y, .inl x, .inl a_, .inr (.inl 1)], n, D, s, p, c)) rfl ?_
                  refine tt_cl (by omega) rfl (g_index1 (Zi := Zi) (q := q) (n := n) (D := D) (s := s) (p := p) (c := c) (by omega) hz (by omega) hS hC hW a_ x y (by omega) (by omega) (by omega) (show a_ < (s 102) ∧ x < (s 100) ∧ y < (s 101) by omega)) ?_
                  rintro _ _ ⟨r28, rfl, rfl, b29, k30, k31⟩
                  show tt Zi d 95 (100, [some (.inr (.inl 0)), some (.inl a_), some (.inl x), some (.inl y), some (.inl wide), some (.inl high), some (.inl v), some (.inl u), some (.inl mask), some (.inl r13), none, none, none, none, none], [.inl r28], n, D, s, p, c) _
                  replace k30 : r28 = (a_ * (s 101) + y) * (s 100) + x := k30
                  replace k31 : r28 + (s 100) - x ≤ (s 100) * (s 101) * (s 102) := k31
                  refine tt_k 3 (S' := (105, [some (.inr (.inl 0)), some (.inl a_), some (.inl x), some (.inl y), some (.inl wide), some (.inl high), some (.inl v), some (.inl u), some (.inl mask), some (.inl r13), some (.inl r28), some (.inl 0), none, none, none], [], n, D, s, p, c)) rfl ?_
                  refine g_draw_L105 (Zi := Zi) (q := q) (n := n) (D := D) (s := s) (p := p) (c := c) hd hz (by omega) hS hC hW  a_ x y wide high v u mask r13 r28 (by omega) (by omega) (by omega) (by omega) (by omega) (by omega) (by omega) (by omega) (by omega) (by omega) (show a_ < (s 102) ∧ x + wide ≤ (s 100) ∧ y + high ≤ (s 101) by omega) (show r28 = (a_ * (s 101) + y) * (s 100) + x by omega)  ?_ _ 0 (none) (none) (none) c (by omega) hC (show 0 ≤ high by omega) (Nat.lt_succ_self _)
                  intro x32 x33 x34 x35 c36 b37 hC36 i38 hx39
                  show tt Zi d 95 (210, [some (.inr (.inl 0)), some (.inl a_), some (.inl x), some (.inl y), some (.inl wide), some (.inl high), some (.inl v), some (.inl u), some (.inl mask), some (.inl r13), some (.inl r28), some (.inl x32), x33, x34, x35], [], n, D, s, p, c36) _
                  replace i38 : x32 ≤ high := i38
                  exact tt_rtv rfl rfl (Or.inl ⟨rfl, cW_mono (q := q) (show cW q g (n, D, s, p, c36) from ⟨hS, hC36, hW⟩) (by omega), by omega⟩)
                · show tt Zi d 95 (82, [some (.inr (.inl 0)), some (.inl a_), some (.inl x), some (.inl y), some (.inl wide), some (.inl high), some (.inl v), some (.inl u), some (.inl mask), some (.inl r13), none, none, none, none, none], [], n, D, s, p, c) _
                  have hn40 := wp_n hW (by omega)
                  exact tt_thr (q := (11, 923)) rfl rfl (by decide) (by decide) (by omega) (by omega) (Or.inr (Or.inr ⟨rfl, cW_mono (q := q + 1) ⟨hS, bC_x hC (hW).dz (by decide), wp_x hW⟩ (by omega), by omega⟩))
    · show tt Zi d 95 (29, [some (.inr (.inl 0)), some (.inl a_), some (.inl x), some (.inl y), some (.inl wide), some (.inl high), some (.inl v), some (.inl u), some (.inl mask), none, none, none, none, none, none], [], n, D, s, p, c) _
      have hn41 := wp_n hW (by omega)
      exact tt_thr (q := (13, 955)) rfl rfl (by decide) (by decide) (by omega) (by omega) (Or.inr (Or.inl ⟨rfl, cW_mono (q := q + 1) ⟨hS, bC_x hC (hW).dz (by decide), wp_x hW⟩ (by omega), by omega⟩))
set_option maxRecDepth 100000 in
set_option maxHeartbeats 4000000 in
theorem g_pack_L82 {g : Nat → Int} {Zi : Nat → Option (Nat × (Nat → Int))} {d n q : Nat} {D : Nat → Nat × Nat} {s : Nat → Int} {p : Nat → Nat} {c : Nat → Nat → Int}  {Q : mi_Rs → mi_H → Prop} (hd : 6 ≤ d) (hz : zk Zi) (hq : q + 12 ≤ 400001) (hS : bS s) (hC : bC D c) (hW : wp q g n D p s) (nr : Int) (b_nr : -2147483648 ≤ nr ∧ nr ≤ 2147483647) (hq0 : 0 ≤ s 801 ∧ s 801 ≤ 255) (hq1 : 7 * s 401 - s 1602 ≤ 1000)
  (hK : ∀ (pn : Int) (n0 : Nat) (D0 : Nat → Nat × Nat) (s0 : Nat → Int) (p0 : Nat → Nat) (c0 : Nat → Nat → Int) (b_pn : 0 ≤ pn ∧ pn ≤ 3) (hS0 : bS s0) (hF0 : fr s s0 [401, 902, 1206, 1207, 1208, 1209, 1210, 1211, 1212, 1213, 1214, 1215, 1216, 1601, 1602]) (hC0 : bC D0 c0) (hW0 : wp q g n0 D0 p0 s0) (hP0 : frp p p0 [400, 900, 901, 1203, 1204, 1205]) (hE0 : ext n D n0 D0) (hc_wo : wo s0) (i0 : 7 * s0 401 - s0 1602 ≤ 1000 + 460000 * pn) (i1 : pn ≤ s 102), (True) → tt Zi d 106 (127, [some (.inr (.inl 0)), some (.inl nr), some (.inl pn)], [], n0, D0, s0, p0, c0) Q) :
  ∀ (m : Nat) (pn : Int) (n0 : Nat) (D0 : Nat → Nat × Nat) (s0 : Nat → Int) (p0 : Nat → Nat) (c0 : Nat → Nat → Int) (b_pn : 0 ≤ pn ∧ pn ≤ 3) (hS0 : bS s0) (hF0 : fr s s0 [401, 902, 1206, 1207, 1208, 1209, 1210, 1211, 1212, 1213, 1214, 1215, 1216, 1601, 1602]) (hC0 : bC D0 c0) (hW0 : wp q g n0 D0 p0 s0) (hP0 : frp p p0 [400, 900, 901, 1203, 1204, 1205]) (hE0 : ext n D n0 D0) (hc_wo : wo s0) (i0 : 7 * s0 401 - s0 1602 ≤ 1000 + 460000 * pn) (i1 : pn ≤ s 102), (s 102 - pn).toNat < m → tt Zi d 106 (82, [some (.inr (.inl 0)), some (.inl nr), some (.inl pn)], [], n0, D0, s0, p0, c0) Q := by
  intro m
  induction m with
  | zero => intro pn n0 D0 s0 p0 c0 b_pn hS0 hF0 hC0 hW0 hP0 hE0 hc_wo i0 i1 hm; exact absurd hm (by omega)
  | succ m ih =>
    intro pn n0 D0 s0 p0 c0 b_pn hS0 hF0 hC0 hW0 hP0 hE0 hc_wo i0 i1 hm
    have e1 : s0 801 = s 801 := hF0 801 (by decide)
    have b2 : -2147483648 ≤ (s0 801) ∧ (s0 801) ≤ 2147483647 := hS0 801
    have b3 : -2147483648 ≤ (s 801) ∧ (s 801) ≤ 2147483647 := hS 801
    have e4 : s0 102 = s 102 := hF0 102 (by decide)
    have b5 : 1 ≤ (s0 102) ∧ (s0 102) ≤ 3 := hS0 102
    have b6 : 1 ≤ (s 102) ∧ (s 102) ≤ 3 := hS 102
    have b7 : 1 ≤ (s0 1602) ∧ (s0 1602) ≤ 8 := hS0 1602
    have b8 : 1 ≤ (s 1602) ∧ (s 1602) ≤ 8 := hS 1602
    refine tt_k 4 (S' := (90, [some (.inr (.inl 0)), some (.inl nr), some (.inl pn)], [.inl (s0 102), .inl pn], n0, D0, s0, p0, c0)) rfl ?_
    refine tb_ge (x := pn) (y := (s0 102)) rfl rfl (by omega) (fun h9 => ?_) (fun h9 => ?_)
    · show tt Zi d 106 (127, [some (.inr (.inl 0)), some (.inl nr), some (.inl pn)], [], n0, D0, s0, p0, c0) _
      exact hK pn n0 D0 s0 p0 c0 (by omega) hS0 hF0 hC0 hW0 hP0 hE0 hc_wo (show 7 * (s0 401) - (s0 1602) ≤ 1000 + 460000 * pn by omega) (show pn ≤ s 102 by omega) trivial
    · show tt Zi d 106 (93, [some (.inr (.inl 0)), some (.inl nr), some (.inl pn)], [], n0, D0, s0, p0, c0) _
      refine tt_k 3 (S' := (96, [some (.inr (.inl 0)), some (.inl nr), some (.inl pn)], [.inl nr, .inl pn, .inr (.inl 0)], n0, D0, s0, p0, c0)) rfl ?_
      have b10 : 0 ≤ (s0 401) ∧ (s0 401) ≤ 262144 := hS0 401
      refine tt_cl (by omega) rfl (g_writeScan (Zi := Zi) (q := q) (n := n0) (D := D0) (s := s0) (p := p0) (c := c0) (by omega) hz (by omega) hS0 hC0 hW0 pn nr (by omega) (by omega) (show (s0 401) ≤ 200100 by omega)) ?_
      rintro _ _ ⟨n11, D12, s13, p14, c15, rfl, rfl, hS13, hC15, hW16, f17, g18, xe19, k20⟩
      have hc21 : wo s13 := wo_fr f17 (by decide) hc_wo
      show tt Zi d 106 (99, [some (.inr (.inl 0)), some (.inl nr), some (.inl pn)], [], n11, D12, s13, p14, c15) _
      replace k20 : (s13 401) ≤ (s0 401) + 10 := k20
      have b22 : 0 ≤ (s13 401) ∧ (s13 401) ≤ 262144 := hS13 401
      have e23 : s13 801 = (s0 801) := (f17 801 (by decide))
      have b24 : -2147483648 ≤ (s13 801) ∧ (s13 801) ≤ 2147483647 := hS13 801
      have e25 : s13 102 = (s0 102) := (f17 102 (by decide))
      have b26 : 1 ≤ (s13 102) ∧ (s13 102) ≤ 3 := hS13 102
      have e27 : s13 1602 = (s0 1602) := (f17 1602 (by decide))
      have b28 : 1 ≤ (s13 1602) ∧ (s13 1602) ≤ 8 := hS13 1602
      refine tt_k 5 (S' := (108, [some (.inr (.inl 0)), some (.inl nr), some (.inl pn)], [.inl pn, .inr (.inl 1), .inr (.inl 12)], n11, D12, s13, p14, c15)) rfl ?_
      have b29 : 1 ≤ (s13 100) ∧ (s13 100) ≤ 64 := hS13 100
      refine tt_cl (by omega) rfl (g_tellPlane12_1 (Zi := Zi) (q := q) (n := n11) (D := D12) (s := s13) (p := p14) (c := c15) (by omega) hz (by omega) hS13 hC15 hW16 pn (by omega) hc21 (show 0 ≤ (s13 801) ∧ (s13 801) ≤ 255 by omega) (show 7 * (s13 401) - (s13 1602) + 500000 ≤ 1834990 by omega) (show pn < (s13 102) ∧ 1 ≤ (s13 100) by omega)) ?_
      rintro _ _ ⟨n30, D31, s32, p33, c34, rfl, rfl, hS32, hC34, hW35, f36, g37, xe38, k39, k40⟩
      show tt Zi d 106 (111, [some (.inr (.inl 0)), some (.inl nr), some (.inl pn)], [], n30, D31, s32, p33, c34) _
      replace k40 : 7 * (s32 401) - (s32 1602) ≤ 7 * (s13 401) - (s13 1602) + 457600 := k40
      have b41 : 0 ≤ (s32 401) ∧ (s32 401) ≤ 262144 := hS32 401
      have b42 : 1 ≤ (s32 1602) ∧ (s32 1602) ≤ 8 := hS32 1602
      have e43 : s32 801 = (s13 801) := (f36 801 (by decide))
      have b44 : -2147483648 ≤ (s32 801) ∧ (s32 801) ≤ 2147483647 := hS32 801
      have e45 : s32 102 = (s13 102) := (f36 102 (by decide))
      have b46 : 1 ≤ (s32 102) ∧ (s32 102) ≤ 3 := hS32 102
      refine tt_k 3 (S' := (118, [some (.inr (.inl 0)), some (.inl nr), some (.inl pn)], [.inr (.inl 16)], n30, D31, s32, p33, c34)) rfl ?_
      refine tt_cl (by omega) rfl (g_finish (Zi := Zi) (q := q) (n := n30) (D := D31) (s := s32) (p := p33) (c := c34) (by omega) hz (by omega) hS32 hC34 hW35 (show (s32 401) ≤ 262143 by omega)) ?_
      rintro _ _ ⟨n47, D48, s49, p50, c51, rfl, rfl, hS49, hC51, hW52, f53, g54, xe55, k56, k57, k58⟩
      show tt Zi d 106 (121, [some (.inr (.inl 0)), some (.inl nr), some (.inl pn)], [], n47, D48, s49, p50, c51) _
      replace k57 : (s49 401) ≤ (s32 401) + 1 := k57
      replace k58 : (s49 1602) = 8 := k58
      have b59 : 0 ≤ (s49 401) ∧ (s49 401) ≤ 262144 := hS49 401
      have b60 : 1 ≤ (s49 1602) ∧ (s49 1602) ≤ 8 := hS49 1602
      have e61 : s49 801 = (s32 801) := (f53 801 (by decide))
      have b62 : -2147483648 ≤ (s49 801) ∧ (s49 801) ≤ 2147483647 := hS49 801
      have e63 : s49 102 = (s32 102) := (f53 102 (by decide))
      have b64 : 1 ≤ (s49 102) ∧ (s49 102) ≤ 3 := hS49 102
      refine tt_k 2 (S' := (82, [some (.inr (.inl 0)), some (.inl nr), some (.inl (pn + 1))], [], n47, D48, s49, p50, c51)) rfl ?_
      exact ih (pn + 1) n47 D48 s49 p50 c51 (by omega) hS49 (fr_tr (fr_tr (fr_tr hF0 f17 (by decide)) f36 (by decide)) f53 (by decide)) hC51 hW52 (frp_tr (frp_tr (frp_tr hP0 g18 (by decide)) g37 (by decide)) g54 (by decide)) (ext_tr (ext_tr (ext_tr hE0 xe19) xe38) xe55) k56 (show 7 * (s49 401) - (s49 1602) ≤ 1000 + 460000 * (pn + 1) by omega) (show (pn + 1) ≤ s 102 by omega) (show (s 102 - (pn + 1)).toNat < m by omega)
set_option maxRecDepth 100000 in
set_option maxHeartbeats 4000000 in
theorem g_pack {g : Nat → Int} {Zi : Nat → Option (Nat × (Nat → Int))} {d n q : Nat} {D : Nat → Nat × Nat} {s : Nat → Int} {p : Nat → Nat} {c : Nat → Nat → Int} (hd : 6 ≤ d) (hz : zk Zi) (hq : q + 12 ≤ 400000) (hS : bS s) (hC : bC D c) (hW : wp q g n D p s) (nr : Int) (b_nr : -2147483648 ≤ nr ∧ nr ≤ 2147483647) : tt Zi d 106 (0, [some (.inr (.inl 0)), some (.inl nr), none], [], n, D, s, p, c) (fun R H => (∃ r : Int, R = .inl (some (.inl r)) ∧ (0 ≤ r ∧ r ≤ 262144) ∧ cW (q + 1) g H) ∨ (R = .inr 11 ∧ cW (q + 1) g H)) := by
  have hwo : wo s := wo_of hS hW
  refine tt_k 8 (S' := (16, [some (.inr (.inl 0)), some (.inl nr), none], [.inl nr, .inl (s 103), .inr (.inl 3), .inr (.inl 8)], n, D, s, p, c)) rfl ?_
  have b1 : 2 ≤ (s 103) ∧ (s 103) ≤ 16 := hS 103
  refine tt_cl (by omega) rfl (g_settle3 (Zi := Zi) (q := q) (n := n) (D := D) (s := s) (p := p) (c := c) (by omega) hz (by omega) hS hC hW (s 103) nr (by omega) (by omega)) ?_
  rintro _ _ ⟨s2, r3, rfl, rfl, hS2, hW4, f5, b6, k7⟩
  have hc8 : wo s2 := wo_fr f5 (by decide) hwo
  show tt Zi d 106 (19, [some (.inr (.inl 0)), some (.inl nr), none], [.inl r3], n, D, s2, p, c) _
  replace k7 : r3 = 1 → 0 ≤ (s2 801) ∧ (s2 801) ≤ 255 := k7
  have b9 : -2147483648 ≤ (s2 801) ∧ (s2 801) ≤ 2147483647 := hS2 801
  have e10 : s2 102 = (s 102) := (f5 102 (by decide))
  have b11 : 1 ≤ (s2 102) ∧ (s2 102) ≤ 3 := hS2 102
  have b12 : 1 ≤ (s 102) ∧ (s 102) ≤ 3 := hS 102
  have e13 : s2 401 = (s 401) := (f5 401 (by decide))
  have b14 : 0 ≤ (s2 401) ∧ (s2 401) ≤ 262144 := hS2 401
  have b15 : 0 ≤ (s 401) ∧ (s 401) ≤ 262144 := hS 401
  have e16 : s2 1602 = (s 1602) := (f5 1602 (by decide))
  have b17 : 1 ≤ (s2 1602) ∧ (s2 1602) ≤ 8 := hS2 1602
  have b18 : 1 ≤ (s 1602) ∧ (s 1602) ≤ 8 := hS 1602
  refine tz_eq (x := r3) rfl rfl (by omega) (fun h19 => ?_) (fun h19 => ?_)
  · show tt Zi d 106 (39, [some (.inr (.inl 0)), some (.inl nr), none], [], n, D, s2, p, c) _
    have hn20 := wp_n hW4 (by omega)
    exact tt_thr (q := (11, 923)) rfl rfl (by decide) (by decide) (by omega) (by omega) (Or.inr ⟨rfl, cW_mono (q := q + 1) ⟨hS2, bC_x hC (hW4).dz (by decide), wp_x hW4⟩ (by omega)⟩)
  · show tt Zi d 106 (22, [some (.inr (.inl 0)), some (.inl nr), none], [], n, D, s2, p, c) _
    refine tt_k 5 (S' := (33, [some (.inr (.inl 0)), some (.inl nr), none], [.inl (s2 800), .inr (.inl 1)], n, D, s2, p, c)) rfl ?_
    have b21 : 0 ≤ (s2 800) ∧ (s2 800) ≤ 65535 := hS2 800
    refine tt_cl (by omega) rfl (g_hasAbove1 (Zi := Zi) (q := q) (n := n) (D := D) (s := s2) (p := p) (c := c) (by omega) hz (by omega) hS2 hC hW4 (s2 800) (by omega)) ?_
    rintro _ _ ⟨r22, rfl, rfl, b23⟩
    show tt Zi d 106 (36, [some (.inr (.inl 0)), some (.inl nr), none], [.inl r22], n, D, s2, p, c) _
    refine tz_eq (x := r22) rfl rfl (by omega) (fun h24 => ?_) (fun h24 => ?_)
    · show tt Zi d 106 (47, [some (.inr (.inl 0)), some (.inl nr), none], [], n, D, s2, p, c) _
      refine tt_k 7 (S' := (62, [some (.inr (.inl 0)), some (.inl nr), none], [.inl 216, .inr (.inl 4)], n, D, (us s2 401 0), p, c)) rfl ?_
      refine tt_cl (by omega) rfl (g_addMark4 (Zi := Zi) (q := q) (n := n) (D := D) (s := (us s2 401 0)) (p := p) (c := c) (by omega) hz (by omega) (bS_us hS2 (show 0 ≤ 0 ∧ 0 ≤ 262144 by omega)) hC (wp_c4 hW4 (show 0 ≤ (ln D (p 400) : Int) by omega)) 216 (by omega) (show 0 ≤ 262142 by omega)) ?_
      rintro _ _ ⟨n25, D26, s27, p28, c29, rfl, rfl, hS27, hC29, hW30, f31, g32, xe33, k34⟩
      have hc35 : wo s27 := wo_fr f31 (by decide) (wo_us (by decide) hc8)
      show tt Zi d 106 (65, [some (.inr (.inl 0)), some (.inl nr), none], [], n25, D26, s27, p28, c29) _
      replace k34 : (s27 401) = 0 + 2 := k34
      have b36 : 0 ≤ (s27 401) ∧ (s27 401) ≤ 262144 := hS27 401
      have e37 : s27 801 = (s2 801) := (f31 801 (by decide))
      have b38 : -2147483648 ≤ (s27 801) ∧ (s27 801) ≤ 2147483647 := hS27 801
      have e39 : s27 102 = (s2 102) := (f31 102 (by decide))
      have b40 : 1 ≤ (s27 102) ∧ (s27 102) ≤ 3 := hS27 102
      have e41 : s27 1602 = (s2 1602) := (f31 1602 (by decide))
      have b42 : 1 ≤ (s27 1602) ∧ (s27 1602) ≤ 8 := hS27 1602
      refine tt_k 1 (S' := (66, [some (.inr (.inl 0)), some (.inl nr), none], [.inr (.inl 0)], n25, D26, s27, p28, c29)) rfl ?_
      refine tt_cl (by omega) rfl (g_writeFrame (Zi := Zi) (q := q) (n := n25) (D := D26) (s := s27) (p := p28) (c := c29) (by omega) hz (by omega) hS27 hC29 hW30 (show (s27 401) ≤ 200100 by omega)) ?_
      rintro _ _ ⟨n43, D44, s45, p46, c47, rfl, rfl, hS45, hC47, hW48, f49, g50, xe51, k52⟩
      have hc53 : wo s45 := wo_fr f49 (by decide) hc35
      show tt Zi d 106 (69, [some (.inr (.inl 0)), some (.inl nr), none], [], n43, D44, s45, p46, c47) _
      replace k52 : (s45 401) ≤ (s27 401) + 21 := k52
      have b54 : 0 ≤ (s45 401) ∧ (s45 401) ≤ 262144 := hS45 401
      have e55 : s45 801 = (s27 801) := (f49 801 (by decide))
      have b56 : -2147483648 ≤ (s45 801) ∧ (s45 801) ≤ 2147483647 := hS45 801
      have e57 : s45 102 = (s27 102) := (f49 102 (by decide))
      have b58 : 1 ≤ (s45 102) ∧ (s45 102) ≤ 3 := hS45 102
      have e59 : s45 1602 = (s27 1602) := (f49 1602 (by decide))
      have b60 : 1 ≤ (s45 1602) ∧ (s45 1602) ≤ 8 := hS45 1602
      refine tt_k 1 (S' := (70, [some (.inr (.inl 0)), some (.inl nr), none], [.inr (.inl 0)], n43, D44, s45, p46, c47)) rfl ?_
      refine tt_cl (by omega) rfl (g_hasChosen (Zi := Zi) (q := q) (n := n43) (D := D44) (s := s45) (p := p46) (c := c47) (by omega) hz (by omega) hS45 hC47 hW48 ) ?_
      rintro _ _ ⟨r61, rfl, rfl, b62⟩
      show tt Zi d 106 (73, [some (.inr (.inl 0)), some (.inl nr), none], [.inl r61], n43, D44, s45, p46, c47) _
      refine tz_eq (x := r61) rfl rfl (by omega) (fun h63 => ?_) (fun h63 => ?_)
      · show tt Zi d 106 (80, [some (.inr (.inl 0)), some (.inl nr), none], [], n43, D44, s45, p46, c47) _
        refine tt_k 2 (S' := (82, [some (.inr (.inl 0)), some (.inl nr), some (.inl 0)], [], n43, D44, s45, p46, c47)) rfl ?_
        refine g_pack_L82 (Zi := Zi) (q := q) (n := n43) (D := D44) (s := s45) (p := p46) (c := c47) hd hz (by omega) hS45 hC47 hW48  nr (by omega) (show 0 ≤ (s45 801) ∧ (s45 801) ≤ 255 by omega) (show 7 * (s45 401) - (s45 1602) ≤ 1000 by omega)  ?_ _ 0 n43 D44 s45 p46 c47 (by omega) hS45 fr_rf hC47 hW48 frp_rf ext_rf hc53 (show 7 * (s45 401) - (s45 1602) ≤ 1000 + 460000 * 0 by omega) (show 0 ≤ (s45 102) by omega) (Nat.lt_succ_self _)
        intro x64 n65 D66 s67 p68 c69 b70 hS67 f71 hC69 hW72 g73 xe74 hc75 i76 i77 hx78
        show tt Zi d 106 (127, [some (.inr (.inl 0)), some (.inl nr), some (.inl x64)], [], n65, D66, s67, p68, c69) _
        replace i76 : 7 * (s67 401) - (s67 1602) ≤ 1000 + 460000 * x64 := i76
        have b79 : 0 ≤ (s67 401) ∧ (s67 401) ≤ 262144 := hS67 401
        have b80 : 1 ≤ (s67 1602) ∧ (s67 1602) ≤ 8 := hS67 1602
        replace i77 : x64 ≤ (s45 102) := i77
        have e81 : s67 801 = (s45 801) := (f71 801 (by decide))
        have b82 : -2147483648 ≤ (s67 801) ∧ (s67 801) ≤ 2147483647 := hS67 801
        have e83 : s67 102 = (s45 102) := (f71 102 (by decide))
        have b84 : 1 ≤ (s67 102) ∧ (s67 102) ≤ 3 := hS67 102
        refine tt_k 3 (S' := (134, [some (.inr (.inl 0)), some (.inl nr), some (.inl x64)], [.inl 217, .inr (.inl 4)], n65, D66, s67, p68, c69)) rfl ?_
        refine tt_cl (by omega) rfl (g_addMark4 (Zi := Zi) (q := q) (n := n65) (D := D66) (s := s67) (p := p68) (c := c69) (by omega) hz (by omega) hS67 hC69 hW72 217 (by omega) (show (s67 401) ≤ 262142 by omega)) ?_
        rintro _ _ ⟨n85, D86, s87, p88, c89, rfl, rfl, hS87, hC89, hW90, f91, g92, xe93, k94⟩
        have hc95 : wo s87 := wo_fr f91 (by decide) hc75
        show tt Zi d 106 (137, [some (.inr (.inl 0)), some (.inl nr), some (.inl x64)], [], n85, D86, s87, p88, c89) _
        replace k94 : (s87 401) = (s67 401) + 2 := k94
        have b96 : 0 ≤ (s87 401) ∧ (s87 401) ≤ 262144 := hS87 401
        have e97 : s87 801 = (s67 801) := (f91 801 (by decide))
        have b98 : -2147483648 ≤ (s87 801) ∧ (s87 801) ≤ 2147483647 := hS87 801
        have e99 : s87 102 = (s67 102) := (f91 102 (by decide))
        have b100 : 1 ≤ (s87 102) ∧ (s87 102) ≤ 3 := hS87 102
        have e101 : s87 1602 = (s67 1602) := (f91 1602 (by decide))
        have b102 : 1 ≤ (s87 1602) ∧ (s87 1602) ≤ 8 := hS87 1602
        refine tt_k 3 (S' := (144, [some (.inr (.inl 0)), some (.inl nr), some (.inl x64)], [.inl (s87 401)], n85, D86, s87, p88, c89)) rfl ?_
        exact tt_rti rfl rfl (Or.inl ⟨(s87 401), rfl, by omega, cW_mono (q := q) (show cW q g (n85, D86, s87, p88, c89) from ⟨hS87, hC89, hW90⟩) (by omega)⟩)
      · show tt Zi d 106 (76, [some (.inr (.inl 0)), some (.inl nr), none], [], n43, D44, s45, p46, c47) _
        refine tt_k 1 (S' := (77, [some (.inr (.inl 0)), some (.inl nr), none], [.inr (.inl 0)], n43, D44, s45, p46, c47)) rfl ?_
        refine tt_cl (by omega) rfl (g_writeMeasures (Zi := Zi) (q := q) (n := n43) (D := D44) (s := s45) (p := p46) (c := c47) (by omega) hz (by omega) hS45 hC47 hW48 (show (s45 401) ≤ 200100 by omega)) ?_
        rintro _ _ ⟨n103, D104, s105, p106, c107, rfl, rfl, hS105, hC107, hW108, f109, g110, xe111, k112⟩
        have hc113 : wo s105 := wo_fr f109 (by decide) hc53
        show tt Zi d 106 (80, [some (.inr (.inl 0)), some (.inl nr), none], [], n103, D104, s105, p106, c107) _
        replace k112 : (s105 401) ≤ (s45 401) + 15 := k112
        have b114 : 0 ≤ (s105 401) ∧ (s105 401) ≤ 262144 := hS105 401
        have e115 : s105 801 = (s45 801) := (f109 801 (by decide))
        have b116 : -2147483648 ≤ (s105 801) ∧ (s105 801) ≤ 2147483647 := hS105 801
        have e117 : s105 102 = (s45 102) := (f109 102 (by decide))
        have b118 : 1 ≤ (s105 102) ∧ (s105 102) ≤ 3 := hS105 102
        have e119 : s105 1602 = (s45 1602) := (f109 1602 (by decide))
        have b120 : 1 ≤ (s105 1602) ∧ (s105 1602) ≤ 8 := hS105 1602
        refine tt_k 2 (S' := (82, [some (.inr (.inl 0)), some (.inl nr), some (.inl 0)], [], n103, D104, s105, p106, c107)) rfl ?_
        refine g_pack_L82 (Zi := Zi) (q := q) (n := n103) (D := D104) (s := s105) (p := p106) (c := c107) hd hz (by omega) hS105 hC107 hW108  nr (by omega) (show 0 ≤ (s105 801) ∧ (s105 801) ≤ 255 by omega) (show 7 * (s105 401) - (s105 1602) ≤ 1000 by omega)  ?_ _ 0 n103 D104 s105 p106 c107 (by omega) hS105 fr_rf hC107 hW108 frp_rf ext_rf hc113 (show 7 * (s105 401) - (s105 1602) ≤ 1000 + 460000 * 0 by omega) (show 0 ≤ (s105 102) by omega) (Nat.lt_succ_self _)
        intro x121 n122 D123 s124 p125 c126 b127 hS124 f128 hC126 hW129 g130 xe131 hc132 i133 i134 hx135
        show tt Zi d 106 (127, [some (.inr (.inl 0)), some (.inl nr), some (.inl x121)], [], n122, D123, s124, p125, c126) _
        replace i133 : 7 * (s124 401) - (s124 1602) ≤ 1000 + 460000 * x121 := i133
        have b136 : 0 ≤ (s124 401) ∧ (s124 401) ≤ 262144 := hS124 401
        have b137 : 1 ≤ (s124 1602) ∧ (s124 1602) ≤ 8 := hS124 1602
        replace i134 : x121 ≤ (s105 102) := i134
        have e138 : s124 801 = (s105 801) := (f128 801 (by decide))
        have b139 : -2147483648 ≤ (s124 801) ∧ (s124 801) ≤ 2147483647 := hS124 801
        have e140 : s124 102 = (s105 102) := (f128 102 (by decide))
        have b141 : 1 ≤ (s124 102) ∧ (s124 102) ≤ 3 := hS124 102
        refine tt_k 3 (S' := (134, [some (.inr (.inl 0)), some (.inl nr), some (.inl x121)], [.inl 217, .inr (.inl 4)], n122, D123, s124, p125, c126)) rfl ?_
        refine tt_cl (by omega) rfl (g_addMark4 (Zi := Zi) (q := q) (n := n122) (D := D123) (s := s124) (p := p125) (c := c126) (by omega) hz (by omega) hS124 hC126 hW129 217 (by omega) (show (s124 401) ≤ 262142 by omega)) ?_
        rintro _ _ ⟨n142, D143, s144, p145, c146, rfl, rfl, hS144, hC146, hW147, f148, g149, xe150, k151⟩
        have hc152 : wo s144 := wo_fr f148 (by decide) hc132
        show tt Zi d 106 (137, [some (.inr (.inl 0)), some (.inl nr), some (.inl x121)], [], n142, D143, s144, p145, c146) _
        replace k151 : (s144 401) = (s124 401) + 2 := k151
        have b153 : 0 ≤ (s144 401) ∧ (s144 401) ≤ 262144 := hS144 401
        have e154 : s144 801 = (s124 801) := (f148 801 (by decide))
        have b155 : -2147483648 ≤ (s144 801) ∧ (s144 801) ≤ 2147483647 := hS144 801
        have e156 : s144 102 = (s124 102) := (f148 102 (by decide))
        have b157 : 1 ≤ (s144 102) ∧ (s144 102) ≤ 3 := hS144 102
        have e158 : s144 1602 = (s124 1602) := (f148 1602 (by decide))
        have b159 : 1 ≤ (s144 1602) ∧ (s144 1602) ≤ 8 := hS144 1602
        refine tt_k 3 (S' := (144, [some (.inr (.inl 0)), some (.inl nr), some (.inl x121)], [.inl (s144 401)], n142, D143, s144, p145, c146)) rfl ?_
        exact tt_rti rfl rfl (Or.inl ⟨(s144 401), rfl, by omega, cW_mono (q := q) (show cW q g (n142, D143, s144, p145, c146) from ⟨hS144, hC146, hW147⟩) (by omega)⟩)
    · show tt Zi d 106 (39, [some (.inr (.inl 0)), some (.inl nr), none], [], n, D, s2, p, c) _
      have hn160 := wp_n hW4 (by omega)
      exact tt_thr (q := (11, 923)) rfl rfl (by decide) (by decide) (by omega) (by omega) (Or.inr ⟨rfl, cW_mono (q := q + 1) ⟨hS2, bC_x hC (hW4).dz (by decide), wp_x hW4⟩ (by omega)⟩)
set_option maxRecDepth 100000 in
set_option maxHeartbeats 4000000 in
theorem g_unpack {g : Nat → Int} {Zi : Nat → Option (Nat × (Nat → Int))} {d n q : Nat} {D : Nat → Nat × Nat} {s : Nat → Int} {p : Nat → Nat} {c : Nat → Nat → Int} (hd : 10 ≤ d) (hz : zk Zi) (hq : q + 20 ≤ 400000) (hS : bS s) (hC : bC D c) (hW : wp q g n D p s)  : tt Zi d 15 (0, [some (.inr (.inl 0)), none], [], n, D, s, p, c) (fun R H => (∃ r : Int, R = .inl (some (.inl r)) ∧ (0 ≤ r ∧ r ≤ 8) ∧ cW (q + 1) g H)) := by
  rcases (hW).pp with ⟨hp8, hp9⟩ | ⟨hp8, hp9⟩
  · skip
    refine tt_k 4 (S' := (8, [some (.inr (.inl 0)), none], [.inr (.inl (p 9)), .inr (.inl 17)], n, D, s, p, c)) rfl ?_
    rw [hp9]
    show tt Zi d 15 (8, [some (.inr (.inl 0)), none], [.inr (.inl 27), .inr (.inl 17)], n, D, s, p, c) _
    refine tt_cl (by omega) rfl (g_readRow27 (Zi := Zi) (q := q) (n := n) (D := D) (s := s) (p := p) (c := c) (by omega) hz (by omega) hS hC hW ) ?_
    rintro _ H1 (⟨n1, D2, s3, p4, c5, rfl, rfl, hS3, hC5, hW6, f7, g8, xe9⟩ | ⟨rfl, hY10⟩)
    rotate_left
    · obtain ⟨n11, D12, s13, p14, c15⟩ := H1
      obtain ⟨hS13, hC15, hW14⟩ := hY10
      have hS13 : bS s13 := hS13
      have hC15 : bC D12 c15 := hC15
      have hW14 : wp _ _ n11 D12 p14 s13 := hW14
      show tt Zi d 15 (14, [some (.inr (.inl 0)), none], [.inr (.inl (47 + n11))], n11, D12, s13, p14, c15) _
      refine tt_k 11 (S' := (39, [some (.inr (.inl 0)), some (.inr (.inl (47 + n11)))], [.inl (s13 2005)], n11, D12, (us s13 11 (s13 2006)), p14, c15)) rfl ?_
      have b16 : 0 ≤ (s13 2005) ∧ (s13 2005) ≤ 8 := hS13 2005
      have b17 : -1 ≤ (s13 2006) ∧ (s13 2006) ≤ 100000 := hS13 2006
      exact tt_rti rfl rfl ⟨(s13 2005), rfl, by omega, cW_mono (q := (q + 1)) (show cW (q + 1) g (n11, D12, (us s13 11 (s13 2006)), p14, c15) from ⟨(bS_us hS13 (show -1 ≤ (s13 2006) ∧ (s13 2006) ≤ 100000 by omega)), hC15, (wp_us (by decide) hW14)⟩) (by omega)⟩
    show tt Zi d 15 (11, [some (.inr (.inl 0)), none], [], n1, D2, s3, p4, c5) _
    have hp8x : p4 8 = 25 := (g8 8 (by decide)).trans hp8
    have hp9x : p4 9 = 27 := (g8 9 (by decide)).trans hp9
    refine tt_k 3 (S' := (44, [some (.inr (.inl 0)), none], [.inr (.inl (p4 8))], n1, D2, s3, p4, c5)) rfl ?_
    rw [hp8x]
    show tt Zi d 15 (44, [some (.inr (.inl 0)), none], [.inr (.inl 25)], n1, D2, s3, p4, c5) _
    refine tt_k 4 (S' := (50, [some (.inr (.inl 0)), some (.inr (.inl 25))], [.inr (.inl (p4 9)), .inr (.inl 0)], n1, D2, s3, p4, c5)) rfl ?_
    rw [hp9x]
    show tt Zi d 15 (50, [some (.inr (.inl 0)), some (.inr (.inl 25))], [.inr (.inl 27), .inr (.inl 0)], n1, D2, s3, p4, c5) _
    refine tt_k 11 (S' := (69, [some (.inr (.inl 0)), some (.inr (.inl 25))], [.inl 0], n1, D2, (us (us s3 10 1) 11 (-1)), (up (up p4 8 27) 9 25), c5)) rfl ?_
    exact tt_rti rfl rfl ⟨0, rfl, by omega, cW_mono (q := q) (show cW q g (n1, D2, (us (us s3 10 1) 11 (-1)), (up (up p4 8 27) 9 25), c5) from ⟨(bS_us (bS_us hS3 (show 0 ≤ 1 ∧ 1 ≤ 1 by omega)) (show -1 ≤ (-1) ∧ (-1) ≤ 100000 by omega)), hC5, (wp_us (by decide) (wp_us (by decide) (wp_pp1 hW6)))⟩) (by omega)⟩
  · skip
    refine tt_k 4 (S' := (8, [some (.inr (.inl 0)), none], [.inr (.inl (p 9)), .inr (.inl 17)], n, D, s, p, c)) rfl ?_
    rw [hp9]
    show tt Zi d 15 (8, [some (.inr (.inl 0)), none], [.inr (.inl 25), .inr (.inl 17)], n, D, s, p, c) _
    refine tt_cl (by omega) rfl (g_readRow25 (Zi := Zi) (q := q) (n := n) (D := D) (s := s) (p := p) (c := c) (by omega) hz (by omega) hS hC hW ) ?_
    rintro _ H1 (⟨n18, D19, s20, p21, c22, rfl, rfl, hS20, hC22, hW23, f24, g25, xe26⟩ | ⟨rfl, hY27⟩)
    rotate_left
    · obtain ⟨n28, D29, s30, p31, c32⟩ := H1
      obtain ⟨hS30, hC32, hW31⟩ := hY27
      have hS30 : bS s30 := hS30
      have hC32 : bC D29 c32 := hC32
      have hW31 : wp _ _ n28 D29 p31 s30 := hW31
      show tt Zi d 15 (14, [some (.inr (.inl 0)), none], [.inr (.inl (47 + n28))], n28, D29, s30, p31, c32) _
      refine tt_k 11 (S' := (39, [some (.inr (.inl 0)), some (.inr (.inl (47 + n28)))], [.inl (s30 2005)], n28, D29, (us s30 11 (s30 2006)), p31, c32)) rfl ?_
      have b33 : 0 ≤ (s30 2005) ∧ (s30 2005) ≤ 8 := hS30 2005
      have b34 : -1 ≤ (s30 2006) ∧ (s30 2006) ≤ 100000 := hS30 2006
      exact tt_rti rfl rfl ⟨(s30 2005), rfl, by omega, cW_mono (q := (q + 1)) (show cW (q + 1) g (n28, D29, (us s30 11 (s30 2006)), p31, c32) from ⟨(bS_us hS30 (show -1 ≤ (s30 2006) ∧ (s30 2006) ≤ 100000 by omega)), hC32, (wp_us (by decide) hW31)⟩) (by omega)⟩
    show tt Zi d 15 (11, [some (.inr (.inl 0)), none], [], n18, D19, s20, p21, c22) _
    have hp8x : p21 8 = 27 := (g25 8 (by decide)).trans hp8
    have hp9x : p21 9 = 25 := (g25 9 (by decide)).trans hp9
    refine tt_k 3 (S' := (44, [some (.inr (.inl 0)), none], [.inr (.inl (p21 8))], n18, D19, s20, p21, c22)) rfl ?_
    rw [hp8x]
    show tt Zi d 15 (44, [some (.inr (.inl 0)), none], [.inr (.inl 27)], n18, D19, s20, p21, c22) _
    refine tt_k 4 (S' := (50, [some (.inr (.inl 0)), some (.inr (.inl 27))], [.inr (.inl (p21 9)), .inr (.inl 0)], n18, D19, s20, p21, c22)) rfl ?_
    rw [hp9x]
    show tt Zi d 15 (50, [some (.inr (.inl 0)), some (.inr (.inl 27))], [.inr (.inl 25), .inr (.inl 0)], n18, D19, s20, p21, c22) _
    refine tt_k 11 (S' := (69, [some (.inr (.inl 0)), some (.inr (.inl 27))], [.inl 0], n18, D19, (us (us s20 10 1) 11 (-1)), (up (up p21 8 25) 9 27), c22)) rfl ?_
    exact tt_rti rfl rfl ⟨0, rfl, by omega, cW_mono (q := q) (show cW q g (n18, D19, (us (us s20 10 1) 11 (-1)), (up (up p21 8 25) 9 27), c22) from ⟨(bS_us (bS_us hS20 (show 0 ≤ 1 ∧ 1 ≤ 1 by omega)) (show -1 ≤ (-1) ∧ (-1) ≤ 100000 by omega)), hC22, (wp_us (by decide) (wp_us (by decide) (wp_pp2 hW23)))⟩) (by omega)⟩
