/-! the class draws, packs, unpacks -/
set_option maxRecDepth 100000 in
set_option maxHeartbeats 4000000 in
theorem g_draw_L115 {g : Nat → Int} {Zi : Nat → Option (Nat × (Nat → Int))} {d n q : Nat} {D : Nat → Nat × Nat} {s : Nat → Int} {p : Nat → Nat} {c : Nat → Nat → Int}  {Q : mi_Rs → mi_H → Prop} (hd : 3 ≤ d) (hz : zk Zi) (hq : q + 6 ≤ 400001) (hD : wd n p) (hS : bS s) (hC : bC D c) (hW : wp q g n D p s) (E : Int → Int → Int → Int) (a_ : Int) (x : Int) (y : Int) (wide : Int) (high : Int) (v : Int) (u : Int) (mask : Int) (gr : Int) (fi : Int) (j : Int) (b_a_ : 0 ≤ a_ ∧ a_ ≤ 2) (b_x : 0 ≤ x ∧ x ≤ 63) (b_y : 0 ≤ y ∧ y ≤ 63) (b_wide : 1 ≤ wide ∧ wide ≤ 64) (b_high : 1 ≤ high ∧ high ≤ 64) (b_v : 0 ≤ v ∧ v ≤ 65535) (b_u : 0 ≤ u ∧ u ≤ 65535) (b_mask : 0 ≤ mask ∧ mask ≤ 65535) (b_gr : 3 ≤ gr ∧ gr ≤ 65535) (b_fi : 0 ≤ fi ∧ fi ≤ 12287) (b_j : 0 ≤ j ∧ j ≤ 63) (hq0 : a_ < s 102 ∧ x + wide ≤ s 100 ∧ y + high ≤ s 101) (hq1 : fi = (a_ * s 101 + y) * s 100 + x) (hq2 : j < high)
  (hK : ∀ (i : Int) (o_13 : Option mi_V) (o_14 : Option mi_V) (c0 : Nat → Nat → Int) (b_i : 0 ≤ i ∧ i ≤ 64) (hC0 : bC D c0) (hK0 : fk p c n p c0 [104]) (i0 : i ≤ wide) (i1 : cv (dE E a_ x y wide high v u mask gr j i) (s 100) (s 101) (s 102) (c0 (p 104))), (wide ≤ i) → tt Zi d 95 (204, [some (.inr (.inl 0)), some (.inl a_), some (.inl x), some (.inl y), some (.inl wide), some (.inl high), some (.inl v), some (.inl u), some (.inl mask), some (.inl gr), some (.inl fi), some (.inl j), some (.inl i), o_13, o_14], [], n, D, s, p, c0) Q) :
  ∀ (m : Nat) (i : Int) (o_13 : Option mi_V) (o_14 : Option mi_V) (c0 : Nat → Nat → Int) (b_i : 0 ≤ i ∧ i ≤ 64) (hC0 : bC D c0) (hK0 : fk p c n p c0 [104]) (i0 : i ≤ wide) (i1 : cv (dE E a_ x y wide high v u mask gr j i) (s 100) (s 101) (s 102) (c0 (p 104))), (wide - i).toNat < m → tt Zi d 95 (115, [some (.inr (.inl 0)), some (.inl a_), some (.inl x), some (.inl y), some (.inl wide), some (.inl high), some (.inl v), some (.inl u), some (.inl mask), some (.inl gr), some (.inl fi), some (.inl j), some (.inl i), o_13, o_14], [], n, D, s, p, c0) Q := by
  intro m
  induction m with
  | zero => intro i o_13 o_14 c0 b_i hC0 hK0 i0 i1 hm; exact absurd hm (by omega)
  | succ m ih =>
    intro i o_13 o_14 c0 b_i hC0 hK0 i0 i1 hm
    refine tt_k 2 (S' := (119, [some (.inr (.inl 0)), some (.inl a_), some (.inl x), some (.inl y), some (.inl wide), some (.inl high), some (.inl v), some (.inl u), some (.inl mask), some (.inl gr), some (.inl fi), some (.inl j), some (.inl i), o_13, o_14], [.inl wide, .inl i], n, D, s, p, c0)) rfl ?_
    refine tb_ge (x := i) (y := wide) rfl rfl (by omega) (fun h1 => ?_) (fun h1 => ?_)
    · show tt Zi d 95 (204, [some (.inr (.inl 0)), some (.inl a_), some (.inl x), some (.inl y), some (.inl wide), some (.inl high), some (.inl v), some (.inl u), some (.inl mask), some (.inl gr), some (.inl fi), some (.inl j), some (.inl i), o_13, o_14], [], n, D, s, p, c0) _
      exact hK i (o_13) (o_14) c0 (by omega) hC0 hK0 i0 i1 (by omega)
    · show tt Zi d 95 (122, [some (.inr (.inl 0)), some (.inl a_), some (.inl x), some (.inl y), some (.inl wide), some (.inl high), some (.inl v), some (.inl u), some (.inl mask), some (.inl gr), some (.inl fi), some (.inl j), some (.inl i), o_13, o_14], [], n, D, s, p, c0) _
      refine tt_k 11 (S' := (140, [some (.inr (.inl 0)), some (.inl a_), some (.inl x), some (.inl y), some (.inl wide), some (.inl high), some (.inl v), some (.inl u), some (.inl mask), some (.inl gr), some (.inl fi), some (.inl j), some (.inl i), o_13, o_14], [.inl (wide + high), .inl ((u - v) * (i + j)), .inl v], n, D, s, p, c0)) rfl ?_
      have m2 := mul_bd (e := (u - v)) (st := (i + j)) (a := 65535) (b := 126) (by omega) (by omega) (by omega) (by omega) (by omega)
      refine tt_div (x := ((u - v) * (i + j))) (y := (wide + high)) rfl (by omega) ?_
      show tt Zi d 95 (141, [some (.inr (.inl 0)), some (.inl a_), some (.inl x), some (.inl y), some (.inl wide), some (.inl high), some (.inl v), some (.inl u), some (.inl mask), some (.inl gr), some (.inl fi), some (.inl j), some (.inl i), o_13, o_14], [.inl ((Int.tdiv ((u - v) * (i + j)) (wide + high))), .inl v], n, D, s, p, c0) _
      have b3 := tdv_bd (x := ((u - v) * (i + j))) (y := (wide + high)) (a := 8257410) (by omega) (by omega) (by omega)
      refine tt_k 8 (S' := (154, [some (.inr (.inl 0)), some (.inl a_), some (.inl x), some (.inl y), some (.inl wide), some (.inl high), some (.inl v), some (.inl u), some (.inl mask), some (.inl gr), some (.inl fi), some (.inl j), some (.inl i), some (.inl ((v + (Int.tdiv ((u - v) * (i + j)) (wide + high))))), o_14], [.inl (i + (wide * j)), .inl ((v + (Int.tdiv ((u - v) * (i + j)) (wide + high))))], n, D, s, p, c0)) rfl ?_
      have hwj : 0 ≤ wide * j := Int.mul_nonneg (by omega) (by omega)
      have m4 := mul_bd (e := wide) (st := j) (a := 64) (b := 63) (by omega) (by omega) (by omega) (by omega) (by omega)
      refine tt_cl (by omega) rfl (g_noise (Zi := Zi) (q := q) (n := n) (D := D) (s := s) (p := p) (c := c0) (by omega) hz (by omega) hK0.1 hS hC0 hW (i + (wide * j)) (by omega)) ?_
      rintro _ _ ⟨r5, rfl, rfl, b6, k7⟩
      show tt Zi d 95 (157, [some (.inr (.inl 0)), some (.inl a_), some (.inl x), some (.inl y), some (.inl wide), some (.inl high), some (.inl v), some (.inl u), some (.inl mask), some (.inl gr), some (.inl fi), some (.inl j), some (.inl i), some (.inl ((v + (Int.tdiv ((u - v) * (i + j)) (wide + high))))), o_14], [.inl r5, .inl ((v + (Int.tdiv ((u - v) * (i + j)) (wide + high))))], n, D, s, p, c0) _
      replace k7 : r5 = mi_ushr (((i + (wide * j)) * 40503 + 12345) * ((i + (wide * j)) * 40503 + 12345)) 7 := k7
      refine tt_k 4 (S' := (163, [some (.inr (.inl 0)), some (.inl a_), some (.inl x), some (.inl y), some (.inl wide), some (.inl high), some (.inl v), some (.inl u), some (.inl mask), some (.inl gr), some (.inl fi), some (.inl j), some (.inl i), some (.inl ((v + (Int.tdiv ((u - v) * (i + j)) (wide + high))))), some (.inl (((v + (Int.tdiv ((u - v) * (i + j)) (wide + high))) + (mi_and r5 mask))))], [], n, D, s, p, c0)) rfl ?_
      have b8 : 1 ≤ (s 100) ∧ (s 100) ≤ 64 := hS 100
      have b9 : 1 ≤ (s 101) ∧ (s 101) ≤ 64 := hS 101
      have b10 : 1 ≤ (s 102) ∧ (s 102) ≤ 3 := hS 102
      have b11 : ln D (p 104) ≤ 12288 := (hW).p1.2.2
      have hix := ix_bd (a := a_) (h := s 101) (y := y + j) (w := s 100) (x := x + i) (pl := s 102) (by omega) (by omega) (by omega) (by omega) (by omega) (by omega) (by omega) (by omega) (by omega)
      have hw1 := hW.w1
      have hex : (a_ * s 101 + (y + j)) * s 100 + (x + i) = (a_ * s 101 + y) * s 100 + x + j * s 100 + i := by rw [show a_ * s 101 + (y + j) = a_ * s 101 + y + j by omega, Int.add_mul (a_ * s 101 + y) j (s 100)]; omega
      refine tt_k 14 (S' := (189, [some (.inr (.inl 0)), some (.inl a_), some (.inl x), some (.inl y), some (.inl wide), some (.inl high), some (.inl v), some (.inl u), some (.inl mask), some (.inl gr), some (.inl fi), some (.inl j), some (.inl i), some (.inl ((v + (Int.tdiv ((u - v) * (i + j)) (wide + high))))), some (.inl (((v + (Int.tdiv ((u - v) * (i + j)) (wide + high))) + (mi_and r5 mask))))], [.inl gr, .inl 0, .inl (((fi + (j * (s 100))) + i)), .inr (.inl (p 104))], n, D, s, p, c0)) rfl ?_
      refine tt_k 1 (S' := (191, [some (.inr (.inl 0)), some (.inl a_), some (.inl x), some (.inl y), some (.inl wide), some (.inl high), some (.inl v), some (.inl u), some (.inl mask), some (.inl gr), some (.inl fi), some (.inl j), some (.inl i), some (.inl ((v + (Int.tdiv ((u - v) * (i + j)) (wide + high))))), some (.inl (((v + (Int.tdiv ((u - v) * (i + j)) (wide + high))) + (mi_and r5 mask))))], [.inl (((v + (Int.tdiv ((u - v) * (i + j)) (wide + high))) + (mi_and r5 mask))), .inl gr, .inl 0, .inl (((fi + (j * (s 100))) + i)), .inr (.inl (p 104))], n, D, s, p, c0)) rfl ?_
      have e12 := mi_and_bd r5 (m := mask) (by omega) (by omega)
      refine tt_min (k := 0) (x := gr) (y := ((v + (Int.tdiv ((u - v) * (i + j)) (wide + high))) + (mi_and r5 mask))) rfl rfl (Nat.le_of_ble_eq_true rfl) (by omega) ?_
      refine tt_max (k := 0) (x := 0) (y := (min gr ((v + (Int.tdiv ((u - v) * (i + j)) (wide + high))) + (mi_and r5 mask)))) rfl rfl (Nat.le_of_ble_eq_true rfl) (by omega) ?_
      have m13 := mul_bd (e := j) (st := (s 100)) (a := 63) (b := 64) (by omega) (by omega) (by omega) (by omega) (by omega)
      refine tt_isb (i := ((fi + (j * (s 100))) + i)) (m := (ln D (p 104))) (lo := 0) (hi := 65535) (x := (max 0 (min gr ((v + (Int.tdiv ((u - v) * (i + j)) (wide + high))) + (mi_and r5 mask))))) rfl ((hW).p1.1) (by omega) hC0 ((hW).p1.2.1) (by omega) ?_
      intro c14 hC14 ec14
      show tt Zi d 95 (198, [some (.inr (.inl 0)), some (.inl a_), some (.inl x), some (.inl y), some (.inl wide), some (.inl high), some (.inl v), some (.inl u), some (.inl mask), some (.inl gr), some (.inl fi), some (.inl j), some (.inl i), some (.inl ((v + (Int.tdiv ((u - v) * (i + j)) (wide + high))))), some (.inl (((v + (Int.tdiv ((u - v) * (i + j)) (wide + high))) + (mi_and r5 mask))))], [], n, D, s, p, c14) _
      have FK15 : fk p c n p c14 [104] := fk_st (k := 104) hK0 ec14 (by decide) rfl
      have hE16v : (max 0 (min gr ((v + (Int.tdiv ((u - v) * (i + j)) (wide + high))) + (mi_and r5 mask)))) = (dv wide high v u mask gr j i) := by rw [k7]; rfl
      have hE16r : c14 (p 104) = ua (c0 (p 104)) (((fi + (j * (s 100))) + i)).toNat (dv wide high v u mask gr j i) := by rw [ec14, uc_eq, hE16v]
      have hE16 : cv (dE E a_ x y wide high v u mask gr j (i + 1)) (s 100) (s 101) (s 102) (c14 (p 104)) := by rw [hE16r]; exact cv_eq (cv_st i1 (by omega) (by omega) (by omega) (by omega)) (dE_i (by omega) (by omega))
      refine tt_k 2 (S' := (115, [some (.inr (.inl 0)), some (.inl a_), some (.inl x), some (.inl y), some (.inl wide), some (.inl high), some (.inl v), some (.inl u), some (.inl mask), some (.inl gr), some (.inl fi), some (.inl j), some (.inl (i + 1)), some (.inl ((v + (Int.tdiv ((u - v) * (i + j)) (wide + high))))), some (.inl (((v + (Int.tdiv ((u - v) * (i + j)) (wide + high))) + (mi_and r5 mask))))], [], n, D, s, p, c14)) rfl ?_
      exact ih (i + 1) (some (.inl ((v + (Int.tdiv ((u - v) * (i + j)) (wide + high)))))) (some (.inl (((v + (Int.tdiv ((u - v) * (i + j)) (wide + high))) + (mi_and r5 mask))))) c14 (by omega) hC14 FK15 (show (i + 1) ≤ wide by omega) hE16 (show (wide - (i + 1)).toNat < m by omega)

set_option maxRecDepth 100000 in
set_option maxHeartbeats 4000000 in
theorem g_draw_L105 {g : Nat → Int} {Zi : Nat → Option (Nat × (Nat → Int))} {d n q : Nat} {D : Nat → Nat × Nat} {s : Nat → Int} {p : Nat → Nat} {c : Nat → Nat → Int}  {Q : mi_Rs → mi_H → Prop} (hd : 3 ≤ d) (hz : zk Zi) (hq : q + 6 ≤ 400001) (hD : wd n p) (hS : bS s) (hC : bC D c) (hW : wp q g n D p s) (E : Int → Int → Int → Int) (a_ : Int) (x : Int) (y : Int) (wide : Int) (high : Int) (v : Int) (u : Int) (mask : Int) (gr : Int) (fi : Int) (b_a_ : 0 ≤ a_ ∧ a_ ≤ 2) (b_x : 0 ≤ x ∧ x ≤ 63) (b_y : 0 ≤ y ∧ y ≤ 63) (b_wide : 1 ≤ wide ∧ wide ≤ 64) (b_high : 1 ≤ high ∧ high ≤ 64) (b_v : 0 ≤ v ∧ v ≤ 65535) (b_u : 0 ≤ u ∧ u ≤ 65535) (b_mask : 0 ≤ mask ∧ mask ≤ 65535) (b_gr : 3 ≤ gr ∧ gr ≤ 65535) (b_fi : 0 ≤ fi ∧ fi ≤ 12287) (hq0 : a_ < s 102 ∧ x + wide ≤ s 100 ∧ y + high ≤ s 101) (hq1 : fi = (a_ * s 101 + y) * s 100 + x)
  (hK : ∀ (j : Int) (o_12 : Option mi_V) (o_13 : Option mi_V) (o_14 : Option mi_V) (c0 : Nat → Nat → Int) (b_j : 0 ≤ j ∧ j ≤ 64) (hC0 : bC D c0) (hK0 : fk p c n p c0 [104]) (i0 : j ≤ high) (i1 : cv (dE E a_ x y wide high v u mask gr j 0) (s 100) (s 101) (s 102) (c0 (p 104))), (high ≤ j) → tt Zi d 95 (210, [some (.inr (.inl 0)), some (.inl a_), some (.inl x), some (.inl y), some (.inl wide), some (.inl high), some (.inl v), some (.inl u), some (.inl mask), some (.inl gr), some (.inl fi), some (.inl j), o_12, o_13, o_14], [], n, D, s, p, c0) Q) :
  ∀ (m : Nat) (j : Int) (o_12 : Option mi_V) (o_13 : Option mi_V) (o_14 : Option mi_V) (c0 : Nat → Nat → Int) (b_j : 0 ≤ j ∧ j ≤ 64) (hC0 : bC D c0) (hK0 : fk p c n p c0 [104]) (i0 : j ≤ high) (i1 : cv (dE E a_ x y wide high v u mask gr j 0) (s 100) (s 101) (s 102) (c0 (p 104))), (high - j).toNat < m → tt Zi d 95 (105, [some (.inr (.inl 0)), some (.inl a_), some (.inl x), some (.inl y), some (.inl wide), some (.inl high), some (.inl v), some (.inl u), some (.inl mask), some (.inl gr), some (.inl fi), some (.inl j), o_12, o_13, o_14], [], n, D, s, p, c0) Q := by
  intro m
  induction m with
  | zero => intro j o_12 o_13 o_14 c0 b_j hC0 hK0 i0 i1 hm; exact absurd hm (by omega)
  | succ m ih =>
    intro j o_12 o_13 o_14 c0 b_j hC0 hK0 i0 i1 hm
    refine tt_k 2 (S' := (109, [some (.inr (.inl 0)), some (.inl a_), some (.inl x), some (.inl y), some (.inl wide), some (.inl high), some (.inl v), some (.inl u), some (.inl mask), some (.inl gr), some (.inl fi), some (.inl j), o_12, o_13, o_14], [.inl high, .inl j], n, D, s, p, c0)) rfl ?_
    refine tb_ge (x := j) (y := high) rfl rfl (by omega) (fun h1 => ?_) (fun h1 => ?_)
    · show tt Zi d 95 (210, [some (.inr (.inl 0)), some (.inl a_), some (.inl x), some (.inl y), some (.inl wide), some (.inl high), some (.inl v), some (.inl u), some (.inl mask), some (.inl gr), some (.inl fi), some (.inl j), o_12, o_13, o_14], [], n, D, s, p, c0) _
      exact hK j (o_12) (o_13) (o_14) c0 (by omega) hC0 hK0 i0 i1 (by omega)
    · show tt Zi d 95 (112, [some (.inr (.inl 0)), some (.inl a_), some (.inl x), some (.inl y), some (.inl wide), some (.inl high), some (.inl v), some (.inl u), some (.inl mask), some (.inl gr), some (.inl fi), some (.inl j), o_12, o_13, o_14], [], n, D, s, p, c0) _
      refine tt_k 2 (S' := (115, [some (.inr (.inl 0)), some (.inl a_), some (.inl x), some (.inl y), some (.inl wide), some (.inl high), some (.inl v), some (.inl u), some (.inl mask), some (.inl gr), some (.inl fi), some (.inl j), some (.inl 0), o_13, o_14], [], n, D, s, p, c0)) rfl ?_
      have b2 : 1 ≤ (s 102) ∧ (s 102) ≤ 3 := hS 102
      have b3 : 1 ≤ (s 100) ∧ (s 100) ≤ 64 := hS 100
      have b4 : 1 ≤ (s 101) ∧ (s 101) ≤ 64 := hS 101
      refine g_draw_L115 (Zi := Zi) (q := q) (n := n) (D := D) (s := s) (p := p) (c := c0) hd hz (by omega) hK0.1 hS hC0 hW E a_ x y wide high v u mask gr fi j (by omega) (by omega) (by omega) (by omega) (by omega) (by omega) (by omega) (by omega) (by omega) (by omega) (by omega) (show a_ < (s 102) ∧ x + wide ≤ (s 100) ∧ y + high ≤ (s 101) by omega) (show fi = (a_ * (s 101) + y) * (s 100) + x by omega) (show j < high by omega)  ?_ _ 0 (o_13) (o_14) c0 (by omega) hC0 (fk_rf hK0.1) (show 0 ≤ wide by omega) i1 (Nat.lt_succ_self _)
      intro x5 x6 x7 c8 b9 hC8 kf10 i11 i12 hx13
      show tt Zi d 95 (204, [some (.inr (.inl 0)), some (.inl a_), some (.inl x), some (.inl y), some (.inl wide), some (.inl high), some (.inl v), some (.inl u), some (.inl mask), some (.inl gr), some (.inl fi), some (.inl j), some (.inl x5), x6, x7], [], n, D, s, p, c8) _
      have FK14 : fk p c n p c8 [104] := fk_tr hK0 kf10 (by decide)
      replace i11 : x5 ≤ wide := i11
      replace hx13 : wide ≤ x5 := hx13
      refine tt_k 2 (S' := (105, [some (.inr (.inl 0)), some (.inl a_), some (.inl x), some (.inl y), some (.inl wide), some (.inl high), some (.inl v), some (.inl u), some (.inl mask), some (.inl gr), some (.inl fi), some (.inl (j + 1)), some (.inl x5), x6, x7], [], n, D, s, p, c8)) rfl ?_
      exact ih (j + 1) (some (.inl x5)) (x6) (x7) c8 (by omega) hC8 FK14 (show (j + 1) ≤ high by omega) (cv_eq i12 (dE_j hx13)) (show (high - (j + 1)).toNat < m by omega)
set_option maxRecDepth 100000 in
set_option maxHeartbeats 4000000 in
theorem g_draw {g : Nat → Int} {Zi : Nat → Option (Nat × (Nat → Int))} {d n q : Nat} {D : Nat → Nat × Nat} {s : Nat → Int} {p : Nat → Nat} {c : Nat → Nat → Int} (hd : 3 ≤ d) (hz : zk Zi) (hq : q + 6 ≤ 400000) (hD : wd n p) (hS : bS s) (hC : bC D c) (hW : wp q g n D p s) (E : Int → Int → Int → Int) (a_ : Int) (x : Int) (y : Int) (wide : Int) (high : Int) (v : Int) (u : Int) (mask : Int) (b_a_ : -2147483648 ≤ a_ ∧ a_ ≤ 2147483647) (b_x : -2147483648 ≤ x ∧ x ≤ 2147483647) (b_y : -2147483648 ≤ y ∧ y ≤ 2147483647) (b_wide : -2147483648 ≤ wide ∧ wide ≤ 2147483647) (b_high : -2147483648 ≤ high ∧ high ≤ 2147483647) (b_v : -2147483648 ≤ v ∧ v ≤ 2147483647) (b_u : -2147483648 ≤ u ∧ u ≤ 2147483647) (b_mask : -2147483648 ≤ mask ∧ mask ≤ 2147483647) (hp0 : cv E (s 100) (s 101) (s 102) (c (p 104))) : tt Zi d 95 (0, [some (.inr (.inl 0)), some (.inl a_), some (.inl x), some (.inl y), some (.inl wide), some (.inl high), some (.inl v), some (.inl u), some (.inl mask), none, none, none, none, none, none], [], n, D, s, p, c) (fun R H => (R = .inl none ∧ cX (q + 1) g s p c [104] [] H ∧ ((0 ≤ a_ ∧ a_ < s 102 ∧ 0 < wide ∧ 0 < high ∧ 0 ≤ x ∧ 0 ≤ y ∧ x < s 100 ∧ y < s 101 ∧ wide ≤ s 100 - x ∧ high ≤ s 101 - y) ∧ ((0 ≤ v ∧ v ≤ mi_shl 1 (s 103) - 1) ∧ (0 ≤ u ∧ u ≤ mi_shl 1 (s 103) - 1) ∧ (0 ≤ mask ∧ mask ≤ 65535))) ∧ (cv (dE E a_ x y wide high v u mask (mi_shl 1 (s 103) - 1) high 0) (s 100) (s 101) (s 102) (H.2.2.2.2 (H.2.2.2.1 104)))) ∨ (R = .inr 13 ∧ cX (q + 1) g s p c [] LXR H ∧ ¬ (0 ≤ a_ ∧ a_ < s 102 ∧ 0 < wide ∧ 0 < high ∧ 0 ≤ x ∧ 0 ≤ y ∧ x < s 100 ∧ y < s 101 ∧ wide ≤ s 100 - x ∧ high ≤ s 101 - y)) ∨ (R = .inr 11 ∧ cX (q + 1) g s p c [] LXR H ∧ (0 ≤ a_ ∧ a_ < s 102 ∧ 0 < wide ∧ 0 < high ∧ 0 ≤ x ∧ 0 ≤ y ∧ x < s 100 ∧ y < s 101 ∧ wide ≤ s 100 - x ∧ high ≤ s 101 - y) ∧ ¬ ((0 ≤ v ∧ v ≤ mi_shl 1 (s 103) - 1) ∧ (0 ≤ u ∧ u ≤ mi_shl 1 (s 103) - 1) ∧ (0 ≤ mask ∧ mask ≤ 65535)))) := by
  refine tt_k 5 (S' := (7, [some (.inr (.inl 0)), some (.inl a_), some (.inl x), some (.inl y), some (.inl wide), some (.inl high), some (.inl v), some (.inl u), some (.inl mask), none, none, none, none, none, none], [.inl y, .inl x, .inl a_, .inr (.inl 1)], n, D, s, p, c)) rfl ?_
  refine tt_cl (by omega) rfl (g_has1 (Zi := Zi) (q := q) (n := n) (D := D) (s := s) (p := p) (c := c) (by omega) hz (by omega) hD hS hC hW a_ x y (by omega) (by omega) (by omega)) ?_
  rintro _ _ ⟨r1, rfl, rfl, b2, k3⟩
  show tt Zi d 95 (10, [some (.inr (.inl 0)), some (.inl a_), some (.inl x), some (.inl y), some (.inl wide), some (.inl high), some (.inl v), some (.inl u), some (.inl mask), none, none, none, none, none, none], [.inl r1], n, D, s, p, c) _
  replace k3 : r1 = 1 ↔ ((0 ≤ a_ ∧ a_ < (s 102)) ∧ (0 ≤ x ∧ x < (s 100)) ∧ (0 ≤ y ∧ y < (s 101))) := k3
  have b4 : 1 ≤ (s 102) ∧ (s 102) ≤ 3 := hS 102
  have b5 : 1 ≤ (s 100) ∧ (s 100) ≤ 64 := hS 100
  have b6 : 1 ≤ (s 101) ∧ (s 101) ≤ 64 := hS 101
  refine tz_eq (x := r1) rfl rfl (by omega) (fun h7 => ?_) (fun h7 => ?_)
  · show tt Zi d 95 (29, [some (.inr (.inl 0)), some (.inl a_), some (.inl x), some (.inl y), some (.inl wide), some (.inl high), some (.inl v), some (.inl u), some (.inl mask), none, none, none, none, none, none], [], n, D, s, p, c) _
    have hn8 := wp_n hW (by omega)
    exact tt_thr (q := (13, 955)) rfl rfl (by decide) (by decide) (by omega) (by omega) (Or.inr (Or.inl ⟨rfl, cX_mono (q := q + 1) ⟨hS, bC_x hC (hW).dz (by decide), wp_x hW, fk_x (fk_rf hD), (show fr s s LXR from fr_rf)⟩ (by omega), by omega⟩))
  · show tt Zi d 95 (13, [some (.inr (.inl 0)), some (.inl a_), some (.inl x), some (.inl y), some (.inl wide), some (.inl high), some (.inl v), some (.inl u), some (.inl mask), none, none, none, none, none, none], [], n, D, s, p, c) _
    refine tt_k 6 (S' := (23, [some (.inr (.inl 0)), some (.inl a_), some (.inl x), some (.inl y), some (.inl wide), some (.inl high), some (.inl v), some (.inl u), some (.inl mask), none, none, none, none, none, none], [.inl high, .inl wide, .inl y, .inl x, .inr (.inl 1)], n, D, s, p, c)) rfl ?_
    refine tt_cl (by omega) rfl (g_hasRoom1 (Zi := Zi) (q := q) (n := n) (D := D) (s := s) (p := p) (c := c) (by omega) hz (by omega) hD hS hC hW x y wide high (by omega) (by omega) (by omega) (by omega)) ?_
    rintro _ _ ⟨r9, rfl, rfl, b10, k11⟩
    show tt Zi d 95 (26, [some (.inr (.inl 0)), some (.inl a_), some (.inl x), some (.inl y), some (.inl wide), some (.inl high), some (.inl v), some (.inl u), some (.inl mask), none, none, none, none, none, none], [.inl r9], n, D, s, p, c) _
    replace k11 : r9 = 1 ↔ ((1 ≤ wide ∧ wide ≤ (s 100) - x) ∧ (1 ≤ high ∧ high ≤ (s 101) - y)) := k11
    refine tz_ne (x := r9) rfl rfl (by omega) (fun h12 => ?_) (fun h12 => ?_)
    · show tt Zi d 95 (37, [some (.inr (.inl 0)), some (.inl a_), some (.inl x), some (.inl y), some (.inl wide), some (.inl high), some (.inl v), some (.inl u), some (.inl mask), none, none, none, none, none, none], [], n, D, s, p, c) _
      refine tt_k 2 (S' := (41, [some (.inr (.inl 0)), some (.inl a_), some (.inl x), some (.inl y), some (.inl wide), some (.inl high), some (.inl v), some (.inl u), some (.inl mask), none, none, none, none, none, none], [.inr (.inl 1)], n, D, s, p, c)) rfl ?_
      refine tt_cl (by omega) rfl (g_greatest1 (Zi := Zi) (q := q) (n := n) (D := D) (s := s) (p := p) (c := c) (by omega) hz (by omega) hD hS hC hW ) ?_
      rintro _ _ ⟨r13, rfl, rfl, b14, k15⟩
      show tt Zi d 95 (44, [some (.inr (.inl 0)), some (.inl a_), some (.inl x), some (.inl y), some (.inl wide), some (.inl high), some (.inl v), some (.inl u), some (.inl mask), none, none, none, none, none, none], [.inl r13], n, D, s, p, c) _
      replace k15 : r13 = mi_shl 1 ((s 103)) - 1 := k15
      have b16 : 2 ≤ (s 103) ∧ (s 103) ≤ 16 := hS 103
      refine tt_k 2 (S' := (48, [some (.inr (.inl 0)), some (.inl a_), some (.inl x), some (.inl y), some (.inl wide), some (.inl high), some (.inl v), some (.inl u), some (.inl mask), some (.inl r13), none, none, none, none, none], [.inl v], n, D, s, p, c)) rfl ?_
      refine tz_lt (x := v) rfl rfl (by omega) (fun h17 => ?_) (fun h17 => ?_)
      · show tt Zi d 95 (82, [some (.inr (.inl 0)), some (.inl a_), some (.inl x), some (.inl y), some (.inl wide), some (.inl high), some (.inl v), some (.inl u), some (.inl mask), some (.inl r13), none, none, none, none, none], [], n, D, s, p, c) _
        have hn18 := wp_n hW (by omega)
        exact tt_thr (q := (11, 923)) rfl rfl (by decide) (by decide) (by omega) (by omega) (Or.inr (Or.inr ⟨rfl, cX_mono (q := q + 1) ⟨hS, bC_x hC (hW).dz (by decide), wp_x hW, fk_x (fk_rf hD), (show fr s s LXR from fr_rf)⟩ (by omega), by omega⟩))
      · show tt Zi d 95 (51, [some (.inr (.inl 0)), some (.inl a_), some (.inl x), some (.inl y), some (.inl wide), some (.inl high), some (.inl v), some (.inl u), some (.inl mask), some (.inl r13), none, none, none, none, none], [], n, D, s, p, c) _
        refine tt_k 2 (S' := (55, [some (.inr (.inl 0)), some (.inl a_), some (.inl x), some (.inl y), some (.inl wide), some (.inl high), some (.inl v), some (.inl u), some (.inl mask), some (.inl r13), none, none, none, none, none], [.inl r13, .inl v], n, D, s, p, c)) rfl ?_
        refine tb_gt (x := v) (y := r13) rfl rfl (by omega) (fun h19 => ?_) (fun h19 => ?_)
        · show tt Zi d 95 (82, [some (.inr (.inl 0)), some (.inl a_), some (.inl x), some (.inl y), some (.inl wide), some (.inl high), some (.inl v), some (.inl u), some (.inl mask), some (.inl r13), none, none, none, none, none], [], n, D, s, p, c) _
          have hn20 := wp_n hW (by omega)
          exact tt_thr (q := (11, 923)) rfl rfl (by decide) (by decide) (by omega) (by omega) (Or.inr (Or.inr ⟨rfl, cX_mono (q := q + 1) ⟨hS, bC_x hC (hW).dz (by decide), wp_x hW, fk_x (fk_rf hD), (show fr s s LXR from fr_rf)⟩ (by omega), by omega⟩))
        · show tt Zi d 95 (58, [some (.inr (.inl 0)), some (.inl a_), some (.inl x), some (.inl y), some (.inl wide), some (.inl high), some (.inl v), some (.inl u), some (.inl mask), some (.inl r13), none, none, none, none, none], [], n, D, s, p, c) _
          refine tt_k 1 (S' := (60, [some (.inr (.inl 0)), some (.inl a_), some (.inl x), some (.inl y), some (.inl wide), some (.inl high), some (.inl v), some (.inl u), some (.inl mask), some (.inl r13), none, none, none, none, none], [.inl u], n, D, s, p, c)) rfl ?_
          refine tz_lt (x := u) rfl rfl (by omega) (fun h21 => ?_) (fun h21 => ?_)
          · show tt Zi d 95 (82, [some (.inr (.inl 0)), some (.inl a_), some (.inl x), some (.inl y), some (.inl wide), some (.inl high), some (.inl v), some (.inl u), some (.inl mask), some (.inl r13), none, none, none, none, none], [], n, D, s, p, c) _
            have hn22 := wp_n hW (by omega)
            exact tt_thr (q := (11, 923)) rfl rfl (by decide) (by decide) (by omega) (by omega) (Or.inr (Or.inr ⟨rfl, cX_mono (q := q + 1) ⟨hS, bC_x hC (hW).dz (by decide), wp_x hW, fk_x (fk_rf hD), (show fr s s LXR from fr_rf)⟩ (by omega), by omega⟩))
          · show tt Zi d 95 (63, [some (.inr (.inl 0)), some (.inl a_), some (.inl x), some (.inl y), some (.inl wide), some (.inl high), some (.inl v), some (.inl u), some (.inl mask), some (.inl r13), none, none, none, none, none], [], n, D, s, p, c) _
            refine tt_k 2 (S' := (67, [some (.inr (.inl 0)), some (.inl a_), some (.inl x), some (.inl y), some (.inl wide), some (.inl high), some (.inl v), some (.inl u), some (.inl mask), some (.inl r13), none, none, none, none, none], [.inl r13, .inl u], n, D, s, p, c)) rfl ?_
            refine tb_gt (x := u) (y := r13) rfl rfl (by omega) (fun h23 => ?_) (fun h23 => ?_)
            · show tt Zi d 95 (82, [some (.inr (.inl 0)), some (.inl a_), some (.inl x), some (.inl y), some (.inl wide), some (.inl high), some (.inl v), some (.inl u), some (.inl mask), some (.inl r13), none, none, none, none, none], [], n, D, s, p, c) _
              have hn24 := wp_n hW (by omega)
              exact tt_thr (q := (11, 923)) rfl rfl (by decide) (by decide) (by omega) (by omega) (Or.inr (Or.inr ⟨rfl, cX_mono (q := q + 1) ⟨hS, bC_x hC (hW).dz (by decide), wp_x hW, fk_x (fk_rf hD), (show fr s s LXR from fr_rf)⟩ (by omega), by omega⟩))
            · show tt Zi d 95 (70, [some (.inr (.inl 0)), some (.inl a_), some (.inl x), some (.inl y), some (.inl wide), some (.inl high), some (.inl v), some (.inl u), some (.inl mask), some (.inl r13), none, none, none, none, none], [], n, D, s, p, c) _
              refine tt_k 1 (S' := (72, [some (.inr (.inl 0)), some (.inl a_), some (.inl x), some (.inl y), some (.inl wide), some (.inl high), some (.inl v), some (.inl u), some (.inl mask), some (.inl r13), none, none, none, none, none], [.inl mask], n, D, s, p, c)) rfl ?_
              refine tz_lt (x := mask) rfl rfl (by omega) (fun h25 => ?_) (fun h25 => ?_)
              · show tt Zi d 95 (82, [some (.inr (.inl 0)), some (.inl a_), some (.inl x), some (.inl y), some (.inl wide), some (.inl high), some (.inl v), some (.inl u), some (.inl mask), some (.inl r13), none, none, none, none, none], [], n, D, s, p, c) _
                have hn26 := wp_n hW (by omega)
                exact tt_thr (q := (11, 923)) rfl rfl (by decide) (by decide) (by omega) (by omega) (Or.inr (Or.inr ⟨rfl, cX_mono (q := q + 1) ⟨hS, bC_x hC (hW).dz (by decide), wp_x hW, fk_x (fk_rf hD), (show fr s s LXR from fr_rf)⟩ (by omega), by omega⟩))
              · show tt Zi d 95 (75, [some (.inr (.inl 0)), some (.inl a_), some (.inl x), some (.inl y), some (.inl wide), some (.inl high), some (.inl v), some (.inl u), some (.inl mask), some (.inl r13), none, none, none, none, none], [], n, D, s, p, c) _
                refine tt_k 2 (S' := (79, [some (.inr (.inl 0)), some (.inl a_), some (.inl x), some (.inl y), some (.inl wide), some (.inl high), some (.inl v), some (.inl u), some (.inl mask), some (.inl r13), none, none, none, none, none], [.inl 65535, .inl mask], n, D, s, p, c)) rfl ?_
                refine tb_le (x := mask) (y := 65535) rfl rfl (by omega) (fun h27 => ?_) (fun h27 => ?_)
                · show tt Zi d 95 (90, [some (.inr (.inl 0)), some (.inl a_), some (.inl x), some (.inl y), some (.inl wide), some (.inl high), some (.inl v), some (.inl u), some (.inl mask), some (.inl r13), none, none, none, none, none], [], n, D, s, p, c) _
                  refine tt_k 5 (S' := (97, [some (.inr (.inl 0)), some (.inl a_), some (.inl x), some (.inl y), some (.inl wide), some (.inl high), some (.inl v), some (.inl u), some (.inl mask), some (.inl r13), none, none, none, none, none], [.inl y, .inl x, .inl a_, .inr (.inl 1)], n, D, s, p, c)) rfl ?_
                  refine tt_cl (by omega) rfl (g_index1 (Zi := Zi) (q := q) (n := n) (D := D) (s := s) (p := p) (c := c) (by omega) hz (by omega) hD hS hC hW a_ x y (by omega) (by omega) (by omega) (show a_ < (s 102) ∧ x < (s 100) ∧ y < (s 101) by omega)) ?_
                  rintro _ _ ⟨r28, rfl, rfl, b29, k30, k31⟩
                  show tt Zi d 95 (100, [some (.inr (.inl 0)), some (.inl a_), some (.inl x), some (.inl y), some (.inl wide), some (.inl high), some (.inl v), some (.inl u), some (.inl mask), some (.inl r13), none, none, none, none, none], [.inl r28], n, D, s, p, c) _
                  replace k30 : r28 = (a_ * (s 101) + y) * (s 100) + x := k30
                  replace k31 : r28 + (s 100) - x ≤ (s 100) * (s 101) * (s 102) := k31
                  refine tt_k 3 (S' := (105, [some (.inr (.inl 0)), some (.inl a_), some (.inl x), some (.inl y), some (.inl wide), some (.inl high), some (.inl v), some (.inl u), some (.inl mask), some (.inl r13), some (.inl r28), some (.inl 0), none, none, none], [], n, D, s, p, c)) rfl ?_
                  refine g_draw_L105 (Zi := Zi) (q := q) (n := n) (D := D) (s := s) (p := p) (c := c) hd hz (by omega) hD hS hC hW E a_ x y wide high v u mask r13 r28 (by omega) (by omega) (by omega) (by omega) (by omega) (by omega) (by omega) (by omega) (by omega) (by omega) (show a_ < (s 102) ∧ x + wide ≤ (s 100) ∧ y + high ≤ (s 101) by omega) (show r28 = (a_ * (s 101) + y) * (s 100) + x by omega)  ?_ _ 0 (none) (none) (none) c (by omega) hC (fk_rf hD) (show 0 ≤ high by omega) (cv_eq hp0 dE_0) (Nat.lt_succ_self _)
                  intro x32 x33 x34 x35 c36 b37 hC36 kf38 i39 i40 hx41
                  show tt Zi d 95 (210, [some (.inr (.inl 0)), some (.inl a_), some (.inl x), some (.inl y), some (.inl wide), some (.inl high), some (.inl v), some (.inl u), some (.inl mask), some (.inl r13), some (.inl r28), some (.inl x32), x33, x34, x35], [], n, D, s, p, c36) _
                  have FK42 : fk p c n p c36 [104] := fk_tr (fk_rf hD) kf38 (by decide)
                  replace i39 : x32 ≤ high := i39
                  replace hx41 : high ≤ x32 := hx41
                  have hE1 : cv (dE E a_ x y wide high v u mask (mi_shl 1 (s 103) - 1) high 0) (s 100) (s 101) (s 102) (c36 (p 104)) := by
                    have e : x32 = high := by omega
                    have h := i40
                    rw [e, k15] at h
                    exact h
                  exact tt_rtv rfl rfl (Or.inl ⟨rfl, cX_mono (q := q) (show cX q g s p c [104] [] (n, D, s, p, c36) from ⟨hS, hC36, hW, FK42, (show fr s s [] from fr_rf)⟩) (by omega), by omega, by exact hE1⟩)
                · show tt Zi d 95 (82, [some (.inr (.inl 0)), some (.inl a_), some (.inl x), some (.inl y), some (.inl wide), some (.inl high), some (.inl v), some (.inl u), some (.inl mask), some (.inl r13), none, none, none, none, none], [], n, D, s, p, c) _
                  have hn43 := wp_n hW (by omega)
                  exact tt_thr (q := (11, 923)) rfl rfl (by decide) (by decide) (by omega) (by omega) (Or.inr (Or.inr ⟨rfl, cX_mono (q := q + 1) ⟨hS, bC_x hC (hW).dz (by decide), wp_x hW, fk_x (fk_rf hD), (show fr s s LXR from fr_rf)⟩ (by omega), by omega⟩))
    · show tt Zi d 95 (29, [some (.inr (.inl 0)), some (.inl a_), some (.inl x), some (.inl y), some (.inl wide), some (.inl high), some (.inl v), some (.inl u), some (.inl mask), none, none, none, none, none, none], [], n, D, s, p, c) _
      have hn44 := wp_n hW (by omega)
      exact tt_thr (q := (13, 955)) rfl rfl (by decide) (by decide) (by omega) (by omega) (Or.inr (Or.inl ⟨rfl, cX_mono (q := q + 1) ⟨hS, bC_x hC (hW).dz (by decide), wp_x hW, fk_x (fk_rf hD), (show fr s s LXR from fr_rf)⟩ (by omega), by omega⟩))
set_option maxRecDepth 100000 in
set_option maxHeartbeats 4000000 in
theorem g_pack_L82 {g : Nat → Int} {Zi : Nat → Option (Nat × (Nat → Int))} {d n q : Nat} {D : Nat → Nat × Nat} {s : Nat → Int} {p : Nat → Nat} {c : Nat → Nat → Int}  {Q : mi_Rs → mi_H → Prop} (hd : 6 ≤ d) (hz : zk Zi) (hq : q + 12 ≤ 400001) (hD : wd n p) (hS : bS s) (hC : bC D c) (hW : wp q g n D p s) (nr : Int) (b_nr : -2147483648 ≤ nr ∧ nr ≤ 2147483647) (hq0 : 0 ≤ s 801 ∧ s 801 ≤ 255) (hq1 : 7 * s 401 - s 1602 ≤ 1000)
  (hK : ∀ (pn : Int) (n0 : Nat) (D0 : Nat → Nat × Nat) (s0 : Nat → Int) (p0 : Nat → Nat) (c0 : Nat → Nat → Int) (b_pn : 0 ≤ pn ∧ pn ≤ 3) (hS0 : bS s0) (hF0 : fr s s0 [401, 902, 1206, 1207, 1208, 1209, 1210, 1211, 1212, 1213, 1214, 1215, 1216, 1601, 1602]) (hC0 : bC D0 c0) (hW0 : wp q g n0 D0 p0 s0) (hP0 : frp p p0 [400, 900, 901, 1203, 1204, 1205]) (hE0 : ext n D n0 D0) (hK0 : fk p c n0 p0 c0 [400, 900, 901, 1203, 1204]) (hc_wo : wo s0) (i0 : 7 * s0 401 - s0 1602 ≤ 1000 + 460000 * pn) (i1 : pn ≤ s 102), (True) → tt Zi d 106 (127, [some (.inr (.inl 0)), some (.inl nr), some (.inl pn)], [], n0, D0, s0, p0, c0) Q) :
  ∀ (m : Nat) (pn : Int) (n0 : Nat) (D0 : Nat → Nat × Nat) (s0 : Nat → Int) (p0 : Nat → Nat) (c0 : Nat → Nat → Int) (b_pn : 0 ≤ pn ∧ pn ≤ 3) (hS0 : bS s0) (hF0 : fr s s0 [401, 902, 1206, 1207, 1208, 1209, 1210, 1211, 1212, 1213, 1214, 1215, 1216, 1601, 1602]) (hC0 : bC D0 c0) (hW0 : wp q g n0 D0 p0 s0) (hP0 : frp p p0 [400, 900, 901, 1203, 1204, 1205]) (hE0 : ext n D n0 D0) (hK0 : fk p c n0 p0 c0 [400, 900, 901, 1203, 1204]) (hc_wo : wo s0) (i0 : 7 * s0 401 - s0 1602 ≤ 1000 + 460000 * pn) (i1 : pn ≤ s 102), (s 102 - pn).toNat < m → tt Zi d 106 (82, [some (.inr (.inl 0)), some (.inl nr), some (.inl pn)], [], n0, D0, s0, p0, c0) Q := by
  intro m
  induction m with
  | zero => intro pn n0 D0 s0 p0 c0 b_pn hS0 hF0 hC0 hW0 hP0 hE0 hK0 hc_wo i0 i1 hm; exact absurd hm (by omega)
  | succ m ih =>
    intro pn n0 D0 s0 p0 c0 b_pn hS0 hF0 hC0 hW0 hP0 hE0 hK0 hc_wo i0 i1 hm
    have e1 : s0 801 = s 801 := hF0 801 (by decide)
    have b2 : -2147483648 ≤ (s0 801) ∧ (s0 801) ≤ 2147483647 := hS0 801
    have b3 : -2147483648 ≤ (s 801) ∧ (s 801) ≤ 2147483647 := hS 801
    have e4 : s0 102 = s 102 := hF0 102 (by decide)
    have b5 : 1 ≤ (s0 102) ∧ (s0 102) ≤ 3 := hS0 102
    have b6 : 1 ≤ (s 102) ∧ (s 102) ≤ 3 := hS 102
    have b7 : 1 ≤ (s0 1602) ∧ (s0 1602) ≤ 8 := hS0 1602
    have b8 : 1 ≤ (s 1602) ∧ (s 1602) ≤ 8 := hS 1602
    refine tt_k 4 (S' := (90, [some (.inr (.inl 0)), some (.inl nr), some (.inl pn)], [.inl (s0 102), .inl pn], n0, D0, s0, p0, c0)) rfl ?_
    refine tb_ge (x := pn) (y := (s0 102)) rfl rfl (by omega) (fun h9 => ?_) (fun h9 => ?_)
    · show tt Zi d 106 (127, [some (.inr (.inl 0)), some (.inl nr), some (.inl pn)], [], n0, D0, s0, p0, c0) _
      exact hK pn n0 D0 s0 p0 c0 (by omega) hS0 hF0 hC0 hW0 hP0 hE0 hK0 hc_wo (show 7 * (s0 401) - (s0 1602) ≤ 1000 + 460000 * pn by omega) (show pn ≤ s 102 by omega) trivial
    · show tt Zi d 106 (93, [some (.inr (.inl 0)), some (.inl nr), some (.inl pn)], [], n0, D0, s0, p0, c0) _
      refine tt_k 3 (S' := (96, [some (.inr (.inl 0)), some (.inl nr), some (.inl pn)], [.inl nr, .inl pn, .inr (.inl 0)], n0, D0, s0, p0, c0)) rfl ?_
      have b10 : 0 ≤ (s0 401) ∧ (s0 401) ≤ 262144 := hS0 401
      refine tt_cl (by omega) rfl (g_writeScan (Zi := Zi) (q := q) (n := n0) (D := D0) (s := s0) (p := p0) (c := c0) (by omega) hz (by omega) hK0.1 hS0 hC0 hW0 pn nr (by omega) (by omega) (show (s0 401) ≤ 200100 by omega)) ?_
      rintro _ _ ⟨n11, D12, s13, p14, c15, rfl, rfl, hS13, hC15, hW16, f17, g18, xe19, kf20, k21⟩
      have hc22 : wo s13 := wo_fr f17 (by decide) hc_wo
      have FK23 : fk p c n11 p14 c15 [400, 900, 901, 1203, 1204] := fk_tr hK0 kf20 (by decide)
      show tt Zi d 106 (99, [some (.inr (.inl 0)), some (.inl nr), some (.inl pn)], [], n11, D12, s13, p14, c15) _
      replace k21 : (s13 401) ≤ (s0 401) + 10 := k21
      have b24 : 0 ≤ (s13 401) ∧ (s13 401) ≤ 262144 := hS13 401
      have e25 : s13 801 = (s0 801) := (f17 801 (by decide))
      have b26 : -2147483648 ≤ (s13 801) ∧ (s13 801) ≤ 2147483647 := hS13 801
      have e27 : s13 102 = (s0 102) := (f17 102 (by decide))
      have b28 : 1 ≤ (s13 102) ∧ (s13 102) ≤ 3 := hS13 102
      have e29 : s13 1602 = (s0 1602) := (f17 1602 (by decide))
      have b30 : 1 ≤ (s13 1602) ∧ (s13 1602) ≤ 8 := hS13 1602
      refine tt_k 5 (S' := (108, [some (.inr (.inl 0)), some (.inl nr), some (.inl pn)], [.inl pn, .inr (.inl 1), .inr (.inl 12)], n11, D12, s13, p14, c15)) rfl ?_
      have b31 : 1 ≤ (s13 100) ∧ (s13 100) ≤ 64 := hS13 100
      refine tt_cl (by omega) rfl (g_tellPlane12_1 (Zi := Zi) (q := q) (n := n11) (D := D12) (s := s13) (p := p14) (c := c15) (by omega) hz (by omega) FK23.1 hS13 hC15 hW16 pn (by omega) hc22 (show 0 ≤ (s13 801) ∧ (s13 801) ≤ 255 by omega) (show 7 * (s13 401) - (s13 1602) + 500000 ≤ 1834990 by omega) (show pn < (s13 102) ∧ 1 ≤ (s13 100) by omega)) ?_
      rintro _ _ ⟨n32, D33, s34, p35, c36, rfl, rfl, hS34, hC36, hW37, f38, g39, xe40, kf41, k42, k43⟩
      have FK44 : fk p c n32 p35 c36 [400, 900, 901, 1203, 1204] := fk_tr FK23 kf41 (by decide)
      show tt Zi d 106 (111, [some (.inr (.inl 0)), some (.inl nr), some (.inl pn)], [], n32, D33, s34, p35, c36) _
      replace k43 : 7 * (s34 401) - (s34 1602) ≤ 7 * (s13 401) - (s13 1602) + 457600 := k43
      have b45 : 0 ≤ (s34 401) ∧ (s34 401) ≤ 262144 := hS34 401
      have b46 : 1 ≤ (s34 1602) ∧ (s34 1602) ≤ 8 := hS34 1602
      have e47 : s34 801 = (s13 801) := (f38 801 (by decide))
      have b48 : -2147483648 ≤ (s34 801) ∧ (s34 801) ≤ 2147483647 := hS34 801
      have e49 : s34 102 = (s13 102) := (f38 102 (by decide))
      have b50 : 1 ≤ (s34 102) ∧ (s34 102) ≤ 3 := hS34 102
      refine tt_k 3 (S' := (118, [some (.inr (.inl 0)), some (.inl nr), some (.inl pn)], [.inr (.inl 16)], n32, D33, s34, p35, c36)) rfl ?_
      refine tt_cl (by omega) rfl (g_finish (Zi := Zi) (q := q) (n := n32) (D := D33) (s := s34) (p := p35) (c := c36) (by omega) hz (by omega) FK44.1 hS34 hC36 hW37 (show (s34 401) ≤ 262143 by omega)) ?_
      rintro _ _ ⟨n51, D52, s53, p54, c55, rfl, rfl, hS53, hC55, hW56, f57, g58, xe59, kf60, k61, k62, k63⟩
      have FK64 : fk p c n51 p54 c55 [400, 900, 901, 1203, 1204] := fk_tr FK44 kf60 (by decide)
      show tt Zi d 106 (121, [some (.inr (.inl 0)), some (.inl nr), some (.inl pn)], [], n51, D52, s53, p54, c55) _
      replace k62 : (s53 401) ≤ (s34 401) + 1 := k62
      replace k63 : (s53 1602) = 8 := k63
      have b65 : 0 ≤ (s53 401) ∧ (s53 401) ≤ 262144 := hS53 401
      have b66 : 1 ≤ (s53 1602) ∧ (s53 1602) ≤ 8 := hS53 1602
      have e67 : s53 801 = (s34 801) := (f57 801 (by decide))
      have b68 : -2147483648 ≤ (s53 801) ∧ (s53 801) ≤ 2147483647 := hS53 801
      have e69 : s53 102 = (s34 102) := (f57 102 (by decide))
      have b70 : 1 ≤ (s53 102) ∧ (s53 102) ≤ 3 := hS53 102
      refine tt_k 2 (S' := (82, [some (.inr (.inl 0)), some (.inl nr), some (.inl (pn + 1))], [], n51, D52, s53, p54, c55)) rfl ?_
      exact ih (pn + 1) n51 D52 s53 p54 c55 (by omega) hS53 (fr_tr (fr_tr (fr_tr hF0 f17 (by decide)) f38 (by decide)) f57 (by decide)) hC55 hW56 (frp_tr (frp_tr (frp_tr hP0 g18 (by decide)) g39 (by decide)) g58 (by decide)) (ext_tr (ext_tr (ext_tr hE0 xe19) xe40) xe59) FK64 k61 (show 7 * (s53 401) - (s53 1602) ≤ 1000 + 460000 * (pn + 1) by omega) (show (pn + 1) ≤ s 102 by omega) (show (s 102 - (pn + 1)).toNat < m by omega)
set_option maxRecDepth 100000 in
set_option maxHeartbeats 4000000 in
theorem g_pack {g : Nat → Int} {Zi : Nat → Option (Nat × (Nat → Int))} {d n q : Nat} {D : Nat → Nat × Nat} {s : Nat → Int} {p : Nat → Nat} {c : Nat → Nat → Int} (hd : 6 ≤ d) (hz : zk Zi) (hq : q + 12 ≤ 400000) (hD : wd n p) (hS : bS s) (hC : bC D c) (hW : wp q g n D p s) (nr : Int) (b_nr : -2147483648 ≤ nr ∧ nr ≤ 2147483647) : tt Zi d 106 (0, [some (.inr (.inl 0)), some (.inl nr), none], [], n, D, s, p, c) (fun R H => (∃ r : Int, R = .inl (some (.inl r)) ∧ (0 ≤ r ∧ r ≤ 262144) ∧ cX (q + 1) g s p c [400, 900, 901, 1203, 1204] [401, 800, 801, 802, 803, 804, 805, 806, 807, 808, 809, 902, 1206, 1207, 1208, 1209, 1210, 1211, 1212, 1213, 1214, 1215, 1216, 1601, 1602] H) ∨ (R = .inr 11 ∧ cX (q + 1) g s p c [] LXR H)) := by
  have hwo : wo s := wo_of hS hW
  refine tt_k 8 (S' := (16, [some (.inr (.inl 0)), some (.inl nr), none], [.inl nr, .inl (s 103), .inr (.inl 3), .inr (.inl 8)], n, D, s, p, c)) rfl ?_
  have b1 : 2 ≤ (s 103) ∧ (s 103) ≤ 16 := hS 103
  refine tt_cl (by omega) rfl (g_settle3 (Zi := Zi) (q := q) (n := n) (D := D) (s := s) (p := p) (c := c) (by omega) hz (by omega) hD hS hC hW (s 103) nr (by omega) (by omega)) ?_
  rintro _ _ ⟨s2, r3, rfl, rfl, hS2, hW4, f5, b6, k7⟩
  have hc8 : wo s2 := wo_fr f5 (by decide) hwo
  show tt Zi d 106 (19, [some (.inr (.inl 0)), some (.inl nr), none], [.inl r3], n, D, s2, p, c) _
  replace k7 : r3 = 1 → 0 ≤ (s2 801) ∧ (s2 801) ≤ 255 := k7
  have b9 : -2147483648 ≤ (s2 801) ∧ (s2 801) ≤ 2147483647 := hS2 801
  have e10 : s2 102 = (s 102) := (f5 102 (by decide))
  have b11 : 1 ≤ (s2 102) ∧ (s2 102) ≤ 3 := hS2 102
  have b12 : 1 ≤ (s 102) ∧ (s 102) ≤ 3 := hS 102
  have e13 : s2 401 = (s 401) := (f5 401 (by decide))
  have b14 : 0 ≤ (s2 401) ∧ (s2 401) ≤ 262144 := hS2 401
  have b15 : 0 ≤ (s 401) ∧ (s 401) ≤ 262144 := hS 401
  have e16 : s2 1602 = (s 1602) := (f5 1602 (by decide))
  have b17 : 1 ≤ (s2 1602) ∧ (s2 1602) ≤ 8 := hS2 1602
  have b18 : 1 ≤ (s 1602) ∧ (s 1602) ≤ 8 := hS 1602
  refine tz_eq (x := r3) rfl rfl (by omega) (fun h19 => ?_) (fun h19 => ?_)
  · show tt Zi d 106 (39, [some (.inr (.inl 0)), some (.inl nr), none], [], n, D, s2, p, c) _
    have hn20 := wp_n hW4 (by omega)
    exact tt_thr (q := (11, 923)) rfl rfl (by decide) (by decide) (by omega) (by omega) (Or.inr ⟨rfl, cX_mono (q := q + 1) ⟨hS2, bC_x hC (hW4).dz (by decide), wp_x hW4, fk_x (fk_rf hD), (show fr s s2 LXR from (fr_tr fr_rf f5 (by decide)))⟩ (by omega)⟩)
  · show tt Zi d 106 (22, [some (.inr (.inl 0)), some (.inl nr), none], [], n, D, s2, p, c) _
    refine tt_k 5 (S' := (33, [some (.inr (.inl 0)), some (.inl nr), none], [.inl (s2 800), .inr (.inl 1)], n, D, s2, p, c)) rfl ?_
    have b21 : 0 ≤ (s2 800) ∧ (s2 800) ≤ 65535 := hS2 800
    refine tt_cl (by omega) rfl (g_hasAbove1 (Zi := Zi) (q := q) (n := n) (D := D) (s := s2) (p := p) (c := c) (by omega) hz (by omega) hD hS2 hC hW4 (s2 800) (by omega)) ?_
    rintro _ _ ⟨r22, rfl, rfl, b23⟩
    show tt Zi d 106 (36, [some (.inr (.inl 0)), some (.inl nr), none], [.inl r22], n, D, s2, p, c) _
    refine tz_eq (x := r22) rfl rfl (by omega) (fun h24 => ?_) (fun h24 => ?_)
    · show tt Zi d 106 (47, [some (.inr (.inl 0)), some (.inl nr), none], [], n, D, s2, p, c) _
      refine tt_k 7 (S' := (62, [some (.inr (.inl 0)), some (.inl nr), none], [.inl 216, .inr (.inl 4)], n, D, (us s2 401 0), p, c)) rfl ?_
      refine tt_cl (by omega) rfl (g_addMark4 (Zi := Zi) (q := q) (n := n) (D := D) (s := (us s2 401 0)) (p := p) (c := c) (by omega) hz (by omega) hD (bS_us hS2 (show 0 ≤ 0 ∧ 0 ≤ 262144 by omega)) hC (wp_c4 hW4 (show 0 ≤ (ln D (p 400) : Int) by omega)) 216 (by omega) (show 0 ≤ 262142 by omega)) ?_
      rintro _ _ ⟨n25, D26, s27, p28, c29, rfl, rfl, hS27, hC29, hW30, f31, g32, xe33, kf34, k35⟩
      have hc36 : wo s27 := wo_fr f31 (by decide) (wo_us (by decide) hc8)
      have FK37 : fk p c n25 p28 c29 [400, 900, 901, 1203, 1204] := fk_tr (fk_rf hD) kf34 (by decide)
      show tt Zi d 106 (65, [some (.inr (.inl 0)), some (.inl nr), none], [], n25, D26, s27, p28, c29) _
      replace k35 : (s27 401) = 0 + 2 := k35
      have b38 : 0 ≤ (s27 401) ∧ (s27 401) ≤ 262144 := hS27 401
      have e39 : s27 801 = (s2 801) := (f31 801 (by decide))
      have b40 : -2147483648 ≤ (s27 801) ∧ (s27 801) ≤ 2147483647 := hS27 801
      have e41 : s27 102 = (s2 102) := (f31 102 (by decide))
      have b42 : 1 ≤ (s27 102) ∧ (s27 102) ≤ 3 := hS27 102
      have e43 : s27 1602 = (s2 1602) := (f31 1602 (by decide))
      have b44 : 1 ≤ (s27 1602) ∧ (s27 1602) ≤ 8 := hS27 1602
      refine tt_k 1 (S' := (66, [some (.inr (.inl 0)), some (.inl nr), none], [.inr (.inl 0)], n25, D26, s27, p28, c29)) rfl ?_
      refine tt_cl (by omega) rfl (g_writeFrame (Zi := Zi) (q := q) (n := n25) (D := D26) (s := s27) (p := p28) (c := c29) (by omega) hz (by omega) FK37.1 hS27 hC29 hW30 (show (s27 401) ≤ 200100 by omega)) ?_
      rintro _ _ ⟨n45, D46, s47, p48, c49, rfl, rfl, hS47, hC49, hW50, f51, g52, xe53, kf54, k55⟩
      have hc56 : wo s47 := wo_fr f51 (by decide) hc36
      have FK57 : fk p c n45 p48 c49 [400, 900, 901, 1203, 1204] := fk_tr FK37 kf54 (by decide)
      show tt Zi d 106 (69, [some (.inr (.inl 0)), some (.inl nr), none], [], n45, D46, s47, p48, c49) _
      replace k55 : (s47 401) ≤ (s27 401) + 21 := k55
      have b58 : 0 ≤ (s47 401) ∧ (s47 401) ≤ 262144 := hS47 401
      have e59 : s47 801 = (s27 801) := (f51 801 (by decide))
      have b60 : -2147483648 ≤ (s47 801) ∧ (s47 801) ≤ 2147483647 := hS47 801
      have e61 : s47 102 = (s27 102) := (f51 102 (by decide))
      have b62 : 1 ≤ (s47 102) ∧ (s47 102) ≤ 3 := hS47 102
      have e63 : s47 1602 = (s27 1602) := (f51 1602 (by decide))
      have b64 : 1 ≤ (s47 1602) ∧ (s47 1602) ≤ 8 := hS47 1602
      refine tt_k 1 (S' := (70, [some (.inr (.inl 0)), some (.inl nr), none], [.inr (.inl 0)], n45, D46, s47, p48, c49)) rfl ?_
      refine tt_cl (by omega) rfl (g_hasChosen (Zi := Zi) (q := q) (n := n45) (D := D46) (s := s47) (p := p48) (c := c49) (by omega) hz (by omega) FK57.1 hS47 hC49 hW50 ) ?_
      rintro _ _ ⟨r65, rfl, rfl, b66⟩
      show tt Zi d 106 (73, [some (.inr (.inl 0)), some (.inl nr), none], [.inl r65], n45, D46, s47, p48, c49) _
      refine tz_eq (x := r65) rfl rfl (by omega) (fun h67 => ?_) (fun h67 => ?_)
      · show tt Zi d 106 (80, [some (.inr (.inl 0)), some (.inl nr), none], [], n45, D46, s47, p48, c49) _
        refine tt_k 2 (S' := (82, [some (.inr (.inl 0)), some (.inl nr), some (.inl 0)], [], n45, D46, s47, p48, c49)) rfl ?_
        refine g_pack_L82 (Zi := Zi) (q := q) (n := n45) (D := D46) (s := s47) (p := p48) (c := c49) hd hz (by omega) FK57.1 hS47 hC49 hW50  nr (by omega) (show 0 ≤ (s47 801) ∧ (s47 801) ≤ 255 by omega) (show 7 * (s47 401) - (s47 1602) ≤ 1000 by omega)  ?_ _ 0 n45 D46 s47 p48 c49 (by omega) hS47 fr_rf hC49 hW50 frp_rf ext_rf (fk_rf FK57.1) hc56 (show 7 * (s47 401) - (s47 1602) ≤ 1000 + 460000 * 0 by omega) (show 0 ≤ (s47 102) by omega) (Nat.lt_succ_self _)
        intro x68 n69 D70 s71 p72 c73 b74 hS71 f75 hC73 hW76 g77 xe78 kf79 hc80 i81 i82 hx83
        show tt Zi d 106 (127, [some (.inr (.inl 0)), some (.inl nr), some (.inl x68)], [], n69, D70, s71, p72, c73) _
        have FK84 : fk p c n69 p72 c73 [400, 900, 901, 1203, 1204] := fk_tr FK57 kf79 (by decide)
        replace i81 : 7 * (s71 401) - (s71 1602) ≤ 1000 + 460000 * x68 := i81
        have b85 : 0 ≤ (s71 401) ∧ (s71 401) ≤ 262144 := hS71 401
        have b86 : 1 ≤ (s71 1602) ∧ (s71 1602) ≤ 8 := hS71 1602
        replace i82 : x68 ≤ (s47 102) := i82
        have e87 : s71 801 = (s47 801) := (f75 801 (by decide))
        have b88 : -2147483648 ≤ (s71 801) ∧ (s71 801) ≤ 2147483647 := hS71 801
        have e89 : s71 102 = (s47 102) := (f75 102 (by decide))
        have b90 : 1 ≤ (s71 102) ∧ (s71 102) ≤ 3 := hS71 102
        refine tt_k 3 (S' := (134, [some (.inr (.inl 0)), some (.inl nr), some (.inl x68)], [.inl 217, .inr (.inl 4)], n69, D70, s71, p72, c73)) rfl ?_
        refine tt_cl (by omega) rfl (g_addMark4 (Zi := Zi) (q := q) (n := n69) (D := D70) (s := s71) (p := p72) (c := c73) (by omega) hz (by omega) FK84.1 hS71 hC73 hW76 217 (by omega) (show (s71 401) ≤ 262142 by omega)) ?_
        rintro _ _ ⟨n91, D92, s93, p94, c95, rfl, rfl, hS93, hC95, hW96, f97, g98, xe99, kf100, k101⟩
        have hc102 : wo s93 := wo_fr f97 (by decide) hc80
        have FK103 : fk p c n91 p94 c95 [400, 900, 901, 1203, 1204] := fk_tr FK84 kf100 (by decide)
        show tt Zi d 106 (137, [some (.inr (.inl 0)), some (.inl nr), some (.inl x68)], [], n91, D92, s93, p94, c95) _
        replace k101 : (s93 401) = (s71 401) + 2 := k101
        have b104 : 0 ≤ (s93 401) ∧ (s93 401) ≤ 262144 := hS93 401
        have e105 : s93 801 = (s71 801) := (f97 801 (by decide))
        have b106 : -2147483648 ≤ (s93 801) ∧ (s93 801) ≤ 2147483647 := hS93 801
        have e107 : s93 102 = (s71 102) := (f97 102 (by decide))
        have b108 : 1 ≤ (s93 102) ∧ (s93 102) ≤ 3 := hS93 102
        have e109 : s93 1602 = (s71 1602) := (f97 1602 (by decide))
        have b110 : 1 ≤ (s93 1602) ∧ (s93 1602) ≤ 8 := hS93 1602
        refine tt_k 3 (S' := (144, [some (.inr (.inl 0)), some (.inl nr), some (.inl x68)], [.inl (s93 401)], n91, D92, s93, p94, c95)) rfl ?_
        exact tt_rti rfl rfl (Or.inl ⟨(s93 401), rfl, by omega, cX_mono (q := q) (show cX q g s p c [400, 900, 901, 1203, 1204] [401, 800, 801, 802, 803, 804, 805, 806, 807, 808, 809, 902, 1206, 1207, 1208, 1209, 1210, 1211, 1212, 1213, 1214, 1215, 1216, 1601, 1602] (n91, D92, s93, p94, c95) from ⟨hS93, hC95, hW96, FK103, (show fr s s93 [401, 800, 801, 802, 803, 804, 805, 806, 807, 808, 809, 902, 1206, 1207, 1208, 1209, 1210, 1211, 1212, 1213, 1214, 1215, 1216, 1601, 1602] from (fr_tr (fr_tr (fr_tr (fr_tr (fr_us (by decide) (fr_tr fr_rf f5 (by decide))) f31 (by decide)) f51 (by decide)) f75 (by decide)) f97 (by decide)))⟩) (by omega)⟩)
      · show tt Zi d 106 (76, [some (.inr (.inl 0)), some (.inl nr), none], [], n45, D46, s47, p48, c49) _
        refine tt_k 1 (S' := (77, [some (.inr (.inl 0)), some (.inl nr), none], [.inr (.inl 0)], n45, D46, s47, p48, c49)) rfl ?_
        refine tt_cl (by omega) rfl (g_writeMeasures (Zi := Zi) (q := q) (n := n45) (D := D46) (s := s47) (p := p48) (c := c49) (by omega) hz (by omega) FK57.1 hS47 hC49 hW50 (show (s47 401) ≤ 200100 by omega)) ?_
        rintro _ _ ⟨n111, D112, s113, p114, c115, rfl, rfl, hS113, hC115, hW116, f117, g118, xe119, kf120, k121⟩
        have hc122 : wo s113 := wo_fr f117 (by decide) hc56
        have FK123 : fk p c n111 p114 c115 [400, 900, 901, 1203, 1204] := fk_tr FK57 kf120 (by decide)
        show tt Zi d 106 (80, [some (.inr (.inl 0)), some (.inl nr), none], [], n111, D112, s113, p114, c115) _
        replace k121 : (s113 401) ≤ (s47 401) + 15 := k121
        have b124 : 0 ≤ (s113 401) ∧ (s113 401) ≤ 262144 := hS113 401
        have e125 : s113 801 = (s47 801) := (f117 801 (by decide))
        have b126 : -2147483648 ≤ (s113 801) ∧ (s113 801) ≤ 2147483647 := hS113 801
        have e127 : s113 102 = (s47 102) := (f117 102 (by decide))
        have b128 : 1 ≤ (s113 102) ∧ (s113 102) ≤ 3 := hS113 102
        have e129 : s113 1602 = (s47 1602) := (f117 1602 (by decide))
        have b130 : 1 ≤ (s113 1602) ∧ (s113 1602) ≤ 8 := hS113 1602
        refine tt_k 2 (S' := (82, [some (.inr (.inl 0)), some (.inl nr), some (.inl 0)], [], n111, D112, s113, p114, c115)) rfl ?_
        refine g_pack_L82 (Zi := Zi) (q := q) (n := n111) (D := D112) (s := s113) (p := p114) (c := c115) hd hz (by omega) FK123.1 hS113 hC115 hW116  nr (by omega) (show 0 ≤ (s113 801) ∧ (s113 801) ≤ 255 by omega) (show 7 * (s113 401) - (s113 1602) ≤ 1000 by omega)  ?_ _ 0 n111 D112 s113 p114 c115 (by omega) hS113 fr_rf hC115 hW116 frp_rf ext_rf (fk_rf FK123.1) hc122 (show 7 * (s113 401) - (s113 1602) ≤ 1000 + 460000 * 0 by omega) (show 0 ≤ (s113 102) by omega) (Nat.lt_succ_self _)
        intro x131 n132 D133 s134 p135 c136 b137 hS134 f138 hC136 hW139 g140 xe141 kf142 hc143 i144 i145 hx146
        show tt Zi d 106 (127, [some (.inr (.inl 0)), some (.inl nr), some (.inl x131)], [], n132, D133, s134, p135, c136) _
        have FK147 : fk p c n132 p135 c136 [400, 900, 901, 1203, 1204] := fk_tr FK123 kf142 (by decide)
        replace i144 : 7 * (s134 401) - (s134 1602) ≤ 1000 + 460000 * x131 := i144
        have b148 : 0 ≤ (s134 401) ∧ (s134 401) ≤ 262144 := hS134 401
        have b149 : 1 ≤ (s134 1602) ∧ (s134 1602) ≤ 8 := hS134 1602
        replace i145 : x131 ≤ (s113 102) := i145
        have e150 : s134 801 = (s113 801) := (f138 801 (by decide))
        have b151 : -2147483648 ≤ (s134 801) ∧ (s134 801) ≤ 2147483647 := hS134 801
        have e152 : s134 102 = (s113 102) := (f138 102 (by decide))
        have b153 : 1 ≤ (s134 102) ∧ (s134 102) ≤ 3 := hS134 102
        refine tt_k 3 (S' := (134, [some (.inr (.inl 0)), some (.inl nr), some (.inl x131)], [.inl 217, .inr (.inl 4)], n132, D133, s134, p135, c136)) rfl ?_
        refine tt_cl (by omega) rfl (g_addMark4 (Zi := Zi) (q := q) (n := n132) (D := D133) (s := s134) (p := p135) (c := c136) (by omega) hz (by omega) FK147.1 hS134 hC136 hW139 217 (by omega) (show (s134 401) ≤ 262142 by omega)) ?_
        rintro _ _ ⟨n154, D155, s156, p157, c158, rfl, rfl, hS156, hC158, hW159, f160, g161, xe162, kf163, k164⟩
        have hc165 : wo s156 := wo_fr f160 (by decide) hc143
        have FK166 : fk p c n154 p157 c158 [400, 900, 901, 1203, 1204] := fk_tr FK147 kf163 (by decide)
        show tt Zi d 106 (137, [some (.inr (.inl 0)), some (.inl nr), some (.inl x131)], [], n154, D155, s156, p157, c158) _
        replace k164 : (s156 401) = (s134 401) + 2 := k164
        have b167 : 0 ≤ (s156 401) ∧ (s156 401) ≤ 262144 := hS156 401
        have e168 : s156 801 = (s134 801) := (f160 801 (by decide))
        have b169 : -2147483648 ≤ (s156 801) ∧ (s156 801) ≤ 2147483647 := hS156 801
        have e170 : s156 102 = (s134 102) := (f160 102 (by decide))
        have b171 : 1 ≤ (s156 102) ∧ (s156 102) ≤ 3 := hS156 102
        have e172 : s156 1602 = (s134 1602) := (f160 1602 (by decide))
        have b173 : 1 ≤ (s156 1602) ∧ (s156 1602) ≤ 8 := hS156 1602
        refine tt_k 3 (S' := (144, [some (.inr (.inl 0)), some (.inl nr), some (.inl x131)], [.inl (s156 401)], n154, D155, s156, p157, c158)) rfl ?_
        exact tt_rti rfl rfl (Or.inl ⟨(s156 401), rfl, by omega, cX_mono (q := q) (show cX q g s p c [400, 900, 901, 1203, 1204] [401, 800, 801, 802, 803, 804, 805, 806, 807, 808, 809, 902, 1206, 1207, 1208, 1209, 1210, 1211, 1212, 1213, 1214, 1215, 1216, 1601, 1602] (n154, D155, s156, p157, c158) from ⟨hS156, hC158, hW159, FK166, (show fr s s156 [401, 800, 801, 802, 803, 804, 805, 806, 807, 808, 809, 902, 1206, 1207, 1208, 1209, 1210, 1211, 1212, 1213, 1214, 1215, 1216, 1601, 1602] from (fr_tr (fr_tr (fr_tr (fr_tr (fr_tr (fr_us (by decide) (fr_tr fr_rf f5 (by decide))) f31 (by decide)) f51 (by decide)) f117 (by decide)) f138 (by decide)) f160 (by decide)))⟩) (by omega)⟩)
    · show tt Zi d 106 (39, [some (.inr (.inl 0)), some (.inl nr), none], [], n, D, s2, p, c) _
      have hn174 := wp_n hW4 (by omega)
      exact tt_thr (q := (11, 923)) rfl rfl (by decide) (by decide) (by omega) (by omega) (Or.inr ⟨rfl, cX_mono (q := q + 1) ⟨hS2, bC_x hC (hW4).dz (by decide), wp_x hW4, fk_x (fk_rf hD), (show fr s s2 LXR from (fr_tr fr_rf f5 (by decide)))⟩ (by omega)⟩)
set_option maxRecDepth 100000 in
set_option maxHeartbeats 4000000 in
theorem g_unpack {g : Nat → Int} {Zi : Nat → Option (Nat × (Nat → Int))} {d n q : Nat} {D : Nat → Nat × Nat} {s : Nat → Int} {p : Nat → Nat} {c : Nat → Nat → Int} (hd : 10 ≤ d) (hz : zk Zi) (hq : q + 20 ≤ 400000) (hD : wd n p) (hS : bS s) (hC : bC D c) (hW : wp q g n D p s)  : tt Zi d 15 (0, [some (.inr (.inl 0)), none], [], n, D, s, p, c) (fun R H => (∃ r : Int, R = .inl (some (.inl r)) ∧ (0 ≤ r ∧ r ≤ 8) ∧ cX (q + 1) g s p c [18, 19, 900, 901, 2103, 2104, 2504, 2704] [10, 11, 800, 801, 802, 803, 804, 805, 806, 807, 808, 809, 902, 1705, 1706, 2001, 2002, 2003, 2004, 2005, 2006, 2106, 2107, 2108, 2109, 2110, 2111, 2112, 2113, 2114, 2115, 2116, 2500, 2501, 2502, 2503, 2700, 2701, 2702, 2703] H)) := by
  rcases (hW).pp with ⟨hp8, hp9⟩ | ⟨hp8, hp9⟩
  · skip
    refine tt_k 4 (S' := (8, [some (.inr (.inl 0)), none], [.inr (.inl (p 9)), .inr (.inl 17)], n, D, s, p, c)) rfl ?_
    rw [hp9]
    show tt Zi d 15 (8, [some (.inr (.inl 0)), none], [.inr (.inl 27), .inr (.inl 17)], n, D, s, p, c) _
    refine tt_cl (by omega) rfl (g_readRow27 (Zi := Zi) (q := q) (n := n) (D := D) (s := s) (p := p) (c := c) (by omega) hz (by omega) hD hS hC hW ) ?_
    rintro _ H1 (⟨n1, D2, s3, p4, c5, rfl, rfl, hS3, hC5, hW6, f7, g8, xe9, kf10⟩ | ⟨rfl, hY11⟩)
    rotate_left
    · obtain ⟨n12, D13, s14, p15, c16⟩ := H1
      obtain ⟨hS14, hC16, hW15, FKp15, Fxs14⟩ : cX _ g s p c [18, 19, 900, 901, 2103, 2104, 2504, 2704] LXR _ := (cX_trx (fk_rf hD) (show fr s s LXR from fr_rf) hY11 (by decide))
      have hS14 : bS s14 := hS14
      have hC16 : bC D13 c16 := hC16
      have hW15 : wp _ _ n12 D13 p15 s14 := hW15
      have Fxs14 : fr s s14 LXR := Fxs14
      show tt Zi d 15 (14, [some (.inr (.inl 0)), none], [.inr (.inl (47 + n12))], n12, D13, s14, p15, c16) _
      refine tt_k 11 (S' := (39, [some (.inr (.inl 0)), some (.inr (.inl (47 + n12)))], [.inl (s14 2005)], n12, D13, (us s14 11 (s14 2006)), p15, c16)) rfl ?_
      have b17 : 0 ≤ (s14 2005) ∧ (s14 2005) ≤ 8 := hS14 2005
      have b18 : -1 ≤ (s14 2006) ∧ (s14 2006) ≤ 100000 := hS14 2006
      exact tt_rti rfl rfl ⟨(s14 2005), rfl, by omega, cX_mono (q := (q + 1)) (show cX (q + 1) g s p c [18, 19, 900, 901, 2103, 2104, 2504, 2704] [10, 11, 800, 801, 802, 803, 804, 805, 806, 807, 808, 809, 902, 1705, 1706, 2001, 2002, 2003, 2004, 2005, 2006, 2106, 2107, 2108, 2109, 2110, 2111, 2112, 2113, 2114, 2115, 2116, 2500, 2501, 2502, 2503, 2700, 2701, 2702, 2703] (n12, D13, (us s14 11 (s14 2006)), p15, c16) from ⟨(bS_us hS14 (show -1 ≤ (s14 2006) ∧ (s14 2006) ≤ 100000 by omega)), hC16, (wp_us (by decide) hW15), FKp15, (show fr s (us s14 11 (s14 2006)) [10, 11, 800, 801, 802, 803, 804, 805, 806, 807, 808, 809, 902, 1705, 1706, 2001, 2002, 2003, 2004, 2005, 2006, 2106, 2107, 2108, 2109, 2110, 2111, 2112, 2113, 2114, 2115, 2116, 2500, 2501, 2502, 2503, 2700, 2701, 2702, 2703] from (fr_us (by decide) (fr_wk Fxs14 (by decide))))⟩) (by omega)⟩
    have FK19 : fk p c n1 p4 c5 [18, 19, 900, 901, 2103, 2104, 2504, 2704] := fk_tr (fk_rf hD) kf10 (by decide)
    show tt Zi d 15 (11, [some (.inr (.inl 0)), none], [], n1, D2, s3, p4, c5) _
    have hp8x : p4 8 = 25 := (g8 8 (by decide)).trans hp8
    have hp9x : p4 9 = 27 := (g8 9 (by decide)).trans hp9
    refine tt_k 3 (S' := (44, [some (.inr (.inl 0)), none], [.inr (.inl (p4 8))], n1, D2, s3, p4, c5)) rfl ?_
    rw [hp8x]
    show tt Zi d 15 (44, [some (.inr (.inl 0)), none], [.inr (.inl 25)], n1, D2, s3, p4, c5) _
    refine tt_k 4 (S' := (50, [some (.inr (.inl 0)), some (.inr (.inl 25))], [.inr (.inl (p4 9)), .inr (.inl 0)], n1, D2, s3, p4, c5)) rfl ?_
    rw [hp9x]
    show tt Zi d 15 (50, [some (.inr (.inl 0)), some (.inr (.inl 25))], [.inr (.inl 27), .inr (.inl 0)], n1, D2, s3, p4, c5) _
    refine tt_k 11 (S' := (69, [some (.inr (.inl 0)), some (.inr (.inl 25))], [.inl 0], n1, D2, (us (us s3 10 1) 11 (-1)), (up (up p4 8 27) 9 25), c5)) rfl ?_
    exact tt_rti rfl rfl ⟨0, rfl, by omega, cX_mono (q := q) (show cX q g s p c [18, 19, 900, 901, 2103, 2104, 2504, 2704] [10, 11, 800, 801, 802, 803, 804, 805, 806, 807, 808, 809, 902, 1705, 1706, 2001, 2002, 2003, 2004, 2005, 2006, 2106, 2107, 2108, 2109, 2110, 2111, 2112, 2113, 2114, 2115, 2116, 2500, 2501, 2502, 2503, 2700, 2701, 2702, 2703] (n1, D2, (us (us s3 10 1) 11 (-1)), (up (up p4 8 27) 9 25), c5) from ⟨(bS_us (bS_us hS3 (show 0 ≤ 1 ∧ 1 ≤ 1 by omega)) (show -1 ≤ (-1) ∧ (-1) ≤ 100000 by omega)), hC5, (wp_us (by decide) (wp_us (by decide) (wp_pp1 hW6))), (fk_up (by decide) (fk_up (by decide) FK19)), (show fr s (us (us s3 10 1) 11 (-1)) [10, 11, 800, 801, 802, 803, 804, 805, 806, 807, 808, 809, 902, 1705, 1706, 2001, 2002, 2003, 2004, 2005, 2006, 2106, 2107, 2108, 2109, 2110, 2111, 2112, 2113, 2114, 2115, 2116, 2500, 2501, 2502, 2503, 2700, 2701, 2702, 2703] from (fr_us (by decide) (fr_us (by decide) (fr_tr fr_rf f7 (by decide)))))⟩) (by omega)⟩
  · skip
    refine tt_k 4 (S' := (8, [some (.inr (.inl 0)), none], [.inr (.inl (p 9)), .inr (.inl 17)], n, D, s, p, c)) rfl ?_
    rw [hp9]
    show tt Zi d 15 (8, [some (.inr (.inl 0)), none], [.inr (.inl 25), .inr (.inl 17)], n, D, s, p, c) _
    refine tt_cl (by omega) rfl (g_readRow25 (Zi := Zi) (q := q) (n := n) (D := D) (s := s) (p := p) (c := c) (by omega) hz (by omega) hD hS hC hW ) ?_
    rintro _ H1 (⟨n20, D21, s22, p23, c24, rfl, rfl, hS22, hC24, hW25, f26, g27, xe28, kf29⟩ | ⟨rfl, hY30⟩)
    rotate_left
    · obtain ⟨n31, D32, s33, p34, c35⟩ := H1
      obtain ⟨hS33, hC35, hW34, FKp34, Fxs33⟩ : cX _ g s p c [18, 19, 900, 901, 2103, 2104, 2504, 2704] LXR _ := (cX_trx (fk_rf hD) (show fr s s LXR from fr_rf) hY30 (by decide))
      have hS33 : bS s33 := hS33
      have hC35 : bC D32 c35 := hC35
      have hW34 : wp _ _ n31 D32 p34 s33 := hW34
      have Fxs33 : fr s s33 LXR := Fxs33
      show tt Zi d 15 (14, [some (.inr (.inl 0)), none], [.inr (.inl (47 + n31))], n31, D32, s33, p34, c35) _
      refine tt_k 11 (S' := (39, [some (.inr (.inl 0)), some (.inr (.inl (47 + n31)))], [.inl (s33 2005)], n31, D32, (us s33 11 (s33 2006)), p34, c35)) rfl ?_
      have b36 : 0 ≤ (s33 2005) ∧ (s33 2005) ≤ 8 := hS33 2005
      have b37 : -1 ≤ (s33 2006) ∧ (s33 2006) ≤ 100000 := hS33 2006
      exact tt_rti rfl rfl ⟨(s33 2005), rfl, by omega, cX_mono (q := (q + 1)) (show cX (q + 1) g s p c [18, 19, 900, 901, 2103, 2104, 2504, 2704] [10, 11, 800, 801, 802, 803, 804, 805, 806, 807, 808, 809, 902, 1705, 1706, 2001, 2002, 2003, 2004, 2005, 2006, 2106, 2107, 2108, 2109, 2110, 2111, 2112, 2113, 2114, 2115, 2116, 2500, 2501, 2502, 2503, 2700, 2701, 2702, 2703] (n31, D32, (us s33 11 (s33 2006)), p34, c35) from ⟨(bS_us hS33 (show -1 ≤ (s33 2006) ∧ (s33 2006) ≤ 100000 by omega)), hC35, (wp_us (by decide) hW34), FKp34, (show fr s (us s33 11 (s33 2006)) [10, 11, 800, 801, 802, 803, 804, 805, 806, 807, 808, 809, 902, 1705, 1706, 2001, 2002, 2003, 2004, 2005, 2006, 2106, 2107, 2108, 2109, 2110, 2111, 2112, 2113, 2114, 2115, 2116, 2500, 2501, 2502, 2503, 2700, 2701, 2702, 2703] from (fr_us (by decide) (fr_wk Fxs33 (by decide))))⟩) (by omega)⟩
    have FK38 : fk p c n20 p23 c24 [18, 19, 900, 901, 2103, 2104, 2504, 2704] := fk_tr (fk_rf hD) kf29 (by decide)
    show tt Zi d 15 (11, [some (.inr (.inl 0)), none], [], n20, D21, s22, p23, c24) _
    have hp8x : p23 8 = 27 := (g27 8 (by decide)).trans hp8
    have hp9x : p23 9 = 25 := (g27 9 (by decide)).trans hp9
    refine tt_k 3 (S' := (44, [some (.inr (.inl 0)), none], [.inr (.inl (p23 8))], n20, D21, s22, p23, c24)) rfl ?_
    rw [hp8x]
    show tt Zi d 15 (44, [some (.inr (.inl 0)), none], [.inr (.inl 27)], n20, D21, s22, p23, c24) _
    refine tt_k 4 (S' := (50, [some (.inr (.inl 0)), some (.inr (.inl 27))], [.inr (.inl (p23 9)), .inr (.inl 0)], n20, D21, s22, p23, c24)) rfl ?_
    rw [hp9x]
    show tt Zi d 15 (50, [some (.inr (.inl 0)), some (.inr (.inl 27))], [.inr (.inl 25), .inr (.inl 0)], n20, D21, s22, p23, c24) _
    refine tt_k 11 (S' := (69, [some (.inr (.inl 0)), some (.inr (.inl 27))], [.inl 0], n20, D21, (us (us s22 10 1) 11 (-1)), (up (up p23 8 25) 9 27), c24)) rfl ?_
    exact tt_rti rfl rfl ⟨0, rfl, by omega, cX_mono (q := q) (show cX q g s p c [18, 19, 900, 901, 2103, 2104, 2504, 2704] [10, 11, 800, 801, 802, 803, 804, 805, 806, 807, 808, 809, 902, 1705, 1706, 2001, 2002, 2003, 2004, 2005, 2006, 2106, 2107, 2108, 2109, 2110, 2111, 2112, 2113, 2114, 2115, 2116, 2500, 2501, 2502, 2503, 2700, 2701, 2702, 2703] (n20, D21, (us (us s22 10 1) 11 (-1)), (up (up p23 8 25) 9 27), c24) from ⟨(bS_us (bS_us hS22 (show 0 ≤ 1 ∧ 1 ≤ 1 by omega)) (show -1 ≤ (-1) ∧ (-1) ≤ 100000 by omega)), hC24, (wp_us (by decide) (wp_us (by decide) (wp_pp2 hW25))), (fk_up (by decide) (fk_up (by decide) FK38)), (show fr s (us (us s22 10 1) 11 (-1)) [10, 11, 800, 801, 802, 803, 804, 805, 806, 807, 808, 809, 902, 1705, 1706, 2001, 2002, 2003, 2004, 2005, 2006, 2106, 2107, 2108, 2109, 2110, 2111, 2112, 2113, 2114, 2115, 2116, 2500, 2501, 2502, 2503, 2700, 2701, 2702, 2703] from (fr_us (by decide) (fr_us (by decide) (fr_tr fr_rf f26 (by decide)))))⟩) (by omega)⟩
