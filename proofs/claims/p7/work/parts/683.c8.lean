/-! the class draws, packs, unpacks -/
set_option maxRecDepth 100000 in
set_option maxHeartbeats 4000000 in
theorem g_draw_L115 {g : Nat → Int} {Zi : Nat → Option (Nat × (Nat → Int))} {d n q : Nat} {D : Nat → Nat × Nat} {s : Nat → Int} {p : Nat → Nat} {c : Nat → Nat → Int}  {Q : mi_Rs → mi_H → Prop} (hd : 3 ≤ d) (hz : zk Zi) (hq : q + 6 ≤ 400001) (hD : wd n p) (hS : bS s) (hC : bC D c) (hW : wp q g n D p s) (E : Int → Int → Int → Int) (a_ : Int) (x : Int) (y : Int) (wide : Int) (high : Int) (v : Int) (u : Int) (mask : Int) (gr : Int) (fi : Int) (j : Int) (b_a_ : 0 ≤ a_ ∧ a_ ≤ 2) (b_x : 0 ≤ x ∧ x ≤ 63) (b_y : 0 ≤ y ∧ y ≤ 63) (b_wide : 1 ≤ wide ∧ wide ≤ 64) (b_high : 1 ≤ high ∧ high ≤ 64) (b_v : 0 ≤ v ∧ v ≤ 65535) (b_u : 0 ≤ u ∧ u ≤ 65535) (b_mask : 0 ≤ mask ∧ mask ≤ 65535) (b_gr : 3 ≤ gr ∧ gr ≤ 65535) (b_fi : 0 ≤ fi ∧ fi ≤ 12287) (b_j : 0 ≤ j ∧ j ≤ 63) (hq0 : a_ < s 102 ∧ x + wide ≤ s 100 ∧ y + high ≤ s 101) (hq1 : fi = (a_ * s 101 + y) * s 100 + x) (hq2 : j < high)
  (hK : ∀ (i : Int) (o_13 : Option mi_V) (o_14 : Option mi_V) (c0 : Nat → Nat → Int) (b_i : 0 ≤ i ∧ i ≤ 64) (hC0 : bC D c0) (hK0 : fk p c n p c0 [104]) (i0 : i ≤ wide) (i1 : cv (dE E a_ x y wide high v u mask gr j i) (s 100) (s 101) (s 102) (c0 (p 104))), (wide ≤ i) → tt Zi d 95 (204, [some (.inr (.inl 0)), some (.inl a_), some (.inl x), some (.inl y), some (.inl wide), some (.inl high), some (.inl v), some (.inl u), some (.inl mask), some (.inl gr), some (.inl fi), some (.inl j), some (.inl i), o_13, o_14], [], n, D, s, p, c0) Q) :
  ∀ (m : Nat) (i : Int) (o_13 : Option mi_V) (o_14 : Option mi_V) (c0 : Nat → Nat → Int) (b_i : 0 ≤ i ∧ i ≤ 64) (hC0 : bC D c0) (hK0 : fk p c n p c0 [104]) (i0 : i ≤ wide) (i1 : cv (dE E a_ x y wide high v u mask gr j i) (s 100) (s 101) (s 102) (c0 (p 104))), (wide - i).toNat < m → tt Zi d 95 (115, [some (.inr (.inl 0)), some (.inl a_), some (.inl x), some (.inl y), some (.inl wide), some (.inl high), some (.inl v), some (.inl u), some (.inl mask), some (.inl gr), some (.inl fi), some (.inl j), some (.inl i), o_13, o_14], [], n, D, s, p, c0) Q := by
  intro m
  induction m with
  | zero => intro i o_13 o_14 c0 b_i hC0 hK0 i0 i1 hm; exact absurd hm (by omega)
  | succ m ih =>
    intro i o_13 o_14 c0 b_i hC0 hK0 i0 i1 hm
    refine tt_k 2 (S' := (119, [some (.inr (.inl 0)), some (.inl a_), some (.inl x), some (.inl y), some (.inl wide), some (.inl high), some (.inl v), some (.inl u), some (.inl mask), some (.inl gr), some (.inl fi), some (.inl j), some (.inl i), o_13, o_14], [.inl wide, .inl i], n, D, s, p, c0)) rfl ?_
    refine tb_ge (x := i) (y := wide) rfl rfl (by omega) (fun h1 => ?_) (fun h1 => ?_)
    · show tt Zi d 95 (204, [some (.inr (.inl 0)), some (.inl a_), some (.inl x), some (.inl y), some (.inl wide), some (.inl high), some (.inl v), some (.inl u), some (.inl mask), some (.inl gr), some (.inl fi), some (.inl j), some (.inl i), o_13, o_14], [], n, D, s, p, c0) _
      exact hK i (o_13) (o_14) c0 (by omega) hC0 hK0 i0 i1 (by omega)
    · show tt Zi d 95 (122, [some (.inr (.inl 0)), some (.inl a_), some (.inl x), some (.inl y), some (.inl wide), some (.inl high), some (.inl v), some (.inl u), some (.inl mask), some (.inl gr), some (.inl fi), some (.inl j), some (.inl i), o_13, o_14], [], n, D, s, p, c0) _
      refine tt_k 11 (S' := (140, [some (.inr (.inl 0)), some (.inl a_), some (.inl x), some (.inl y), some (.inl wide), some (.inl high), some (.inl v), some (.inl u), some (.inl mask), some (.inl gr), some (.inl fi), some (.inl j), some (.inl i), o_13, o_14], [.inl (wide + high), .inl ((u - v) * (i + j)), .inl v], n, D, s, p, c0)) rfl ?_
      have m2 := mul_bd (e := (u - v)) (st := (i + j)) (a := 65535) (b := 126) (by omega) (by omega) (by omega) (by omega) (by omega)
      refine tt_div (x := ((u - v) * (i + j))) (y := (wide + high)) rfl (by omega) ?_
      show tt Zi d 95 (141, [some (.inr (.inl 0)), some (.inl a_), some (.inl x), some (.inl y), some (.inl wide), some (.inl high), some (.inl v), some (.inl u), some (.inl mask), some (.inl gr), some (.inl fi), some (.inl j), some (.inl i), o_13, o_14], [.inl ((Int.tdiv ((u - v) * (i + j)) (wide + high))), .inl v], n, D, s, p, c0) _
      have b3 := tdv_bd (x := ((u - v) * (i + j))) (y := (wide + high)) (a := 8257410) (by omega) (by omega) (by omega)
      refine tt_k 8 (S' := (154, [some (.inr (.inl 0)), some (.inl a_), some (.inl x), some (.inl y), some (.inl wide), some (.inl high), some (.inl v), some (.inl u), some (.inl mask), some (.inl gr), some (.inl fi), some (.inl j), some (.inl i), some (.inl ((v + (Int.tdiv ((u - v) * (i + j)) (wide + high))))), o_14], [.inl (i + (wide * j)), .inl ((v + (Int.tdiv ((u - v) * (i + j)) (wide + high))))], n, D, s, p, c0)) rfl ?_
      have hwj : 0 ≤ wide * j := Int.mul_nonneg (by omega) (by omega)
      have m4 := mul_bd (e := wide) (st := j) (a := 64) (b := 63) (by omega) (by omega) (by omega) (by omega) (by omega)
      refine tt_cl (by omega) rfl (g_noise (Zi := Zi) (q := q) (n := n) (D := D) (s := s) (p := p) (c := c0) (by omega) hz (by omega) hK0.1 hS hC0 hW (i + (wide * j)) (by omega)) ?_
      rintro _ _ ⟨r5, rfl, rfl, b6, k7⟩
      show tt Zi d 95 (157, [some (.inr (.inl 0)), some (.inl a_), some (.inl x), some (.inl y), some (.inl wide), some (.inl high), some (.inl v), some (.inl u), some (.inl mask), some (.inl gr), some (.inl fi), some (.inl j), some (.inl i), some (.inl ((v + (Int.tdiv ((u - v) * (i + j)) (wide + high))))), o_14], [.inl r5, .inl ((v + (Int.tdiv ((u - v) * (i + j)) (wide + high))))], n, D, s, p, c0) _
      replace k7 : r5 = mi_ushr (((i + (wide * j)) * 40503 + 12345) * ((i + (wide * j)) * 40503 + 12345)) 7 := k7
      refine tt_k 4 (S' := (163, [some (.inr (.inl 0)), some (.inl a_), some (.inl x), some (.inl y), some (.inl wide), some (.inl high), some (.inl v), some (.inl u), some (.inl mask), some (.inl gr), some (.inl fi), some (.inl j), some (.inl i), some (.inl ((v + (Int.tdiv ((u - v) * (i + j)) (wide + high))))), some (.inl (((v + (Int.tdiv ((u - v) * (i + j)) (wide + high))) + (mi_and r5 mask))))], [], n, D, s, p, c0)) rfl ?_
      have b8 : 1 ≤ (s 100) ∧ (s 100) ≤ 64 := hS 100
      have b9 : 1 ≤ (s 101) ∧ (s 101) ≤ 64 := hS 101
      have b10 : 1 ≤ (s 102) ∧ (s 102) ≤ 3 := hS 102
      have b11 : ln D (p 104) ≤ 12288 := (hW).p1.2.2
      have hix := ix_bd (a := a_) (h := s 101) (y := y + j) (w := s 100) (x := x + i) (pl := s 102) (by omega) (by omega) (by omega) (by omega) (by omega) (by omega) (by omega) (by omega) (by omega)
      have hw1 := hW.w1
      have hex : (a_ * s 101 + (y + j)) * s 100 + (x + i) = (a_ * s 101 + y) * s 100 + x + j * s 100 + i := by rw [show a_ * s 101 + (y + j) = a_ * s 101 + y + j by omega, Int.add_mul (a_ * s 101 + y) j (s 100)]; omega
      refine tt_k 14 (S' := (189, [some (.inr (.inl 0)), some (.inl a_), some (.inl x), some (.inl y), some (.inl wide), some (.inl high), some (.inl v), some (.inl u), some (.inl mask), some (.inl gr), some (.inl fi), some (.inl j), some (.inl i), some (.inl ((v + (Int.tdiv ((u - v) * (i + j)) (wide + high))))), some (.inl (((v + (Int.tdiv ((u - v) * (i + j)) (wide + high))) + (mi_and r5 mask))))], [.inl gr, .inl 0, .inl (((fi + (j * (s 100))) + i)), .inr (.inl (p 104))], n, D, s, p, c0)) rfl ?_
      refine tt_k 1 (S' := (191, [some (.inr (.inl 0)), some (.inl a_), some (.inl x), some (.inl y), some (.inl wide), some (.inl high), some (.inl v), some (.inl u), some (.inl mask), some (.inl gr), some (.inl fi), some (.inl j), some (.inl i), some (.inl ((v + (Int.tdiv ((u - v) * (i + j)) (wide + high))))), some (.inl (((v + (Int.tdiv ((u - v) * (i + j)) (wide + high))) + (mi_and r5 mask))))], [.inl (((v + (Int.tdiv ((u - v) * (i + j)) (wide + high))) + (mi_and r5 mask))), .inl gr, .inl 0, .inl (((fi + (j * (s 100))) + i)), .inr (.inl (p 104))], n, D, s, p, c0)) rfl ?_
      have e12 := mi_and_bd r5 (m := mask) (by omega) (by omega)
      refine tt_min (k := 0) (x := gr) (y := ((v + (Int.tdiv ((u - v) * (i + j)) (wide + high))) + (mi_and r5 mask))) rfl rfl (Nat.le_of_ble_eq_true rfl) (by omega) ?_
      refine tt_max (k := 0) (x := 0) (y := (min gr ((v + (Int.tdiv ((u - v) * (i + j)) (wide + high))) + (mi_and r5 mask)))) rfl rfl (Nat.le_of_ble_eq_true rfl) (by omega) ?_
      have m13 := mul_bd (e := j) (st := (s 100)) (a := 63) (b := 64) (by omega) (by omega) (by omega) (by omega) (by omega)
      refine tt_isb (i := ((fi + (j * (s 100))) + i)) (m := (ln D (p 104))) (lo := 0) (hi := 65535) (x := (max 0 (min gr ((v + (Int.tdiv ((u - v) * (i + j)) (wide + high))) + (mi_and r5 mask))))) rfl ((hW).p1.1) (by omega) hC0 ((hW).p1.2.1) (by omega) ?_
      intro c14 hC14 ec14
      show tt Zi d 95 (198, [some (.inr (.inl 0)), some (.inl a_), some (.inl x), some (.inl y), some (.inl wide), some (.inl high), some (.inl v), some (.inl u), some (.inl mask), some (.inl gr), some (.inl fi), some (.inl j), some (.inl i), some (.inl ((v + (Int.tdiv ((u - v) * (i + j)) (wide + high))))), some (.inl (((v + (Int.tdiv ((u - v) * (i + j)) (wide + high))) + (mi_and r5 mask))))], [], n, D, s, p, c14) _
      have FK15 : fk p c n p c14 [104] := fk_st (k := 104) hK0 ec14 (by decide) rfl
      have hE16v : (max 0 (min gr ((v + (Int.tdiv ((u - v) * (i + j)) (wide + high))) + (mi_and r5 mask)))) = (dv wide high v u mask gr j i) := by rw [k7]; rfl
      have hE16r : c14 (p 104) = ua (c0 (p 104)) (((fi + (j * (s 100))) + i)).toNat (dv wide high v u mask gr j i) := by rw [ec14, uc_eq, hE16v]
      have hE16 : cv (dE E a_ x y wide high v u mask gr j (i + 1)) (s 100) (s 101) (s 102) (c14 (p 104)) := by rw [hE16r]; exact cv_eq (cv_st i1 (by omega) (by omega) (by omega) (by omega)) (dE_i (by omega) (by omega))
      refine tt_k 2 (S' := (115, [some (.inr (.inl 0)), some (.inl a_), some (.inl x), some (.inl y), some (.inl wide), some (.inl high), some (.inl v), some (.inl u), some (.inl mask), some (.inl gr), some (.inl fi), some (.inl j), some (.inl (i + 1)), some (.inl ((v + (Int.tdiv ((u - v) * (i + j)) (wide + high))))), some (.inl (((v + (Int.tdiv ((u - v) * (i + j)) (wide + high))) + (mi_and r5 mask))))], [], n, D, s, p, c14)) rfl ?_
      exact ih (i + 1) (some (.inl ((v + (Int.tdiv ((u - v) * (i + j)) (wide + high)))))) (some (.inl (((v + (Int.tdiv ((u - v) * (i + j)) (wide + high))) + (mi_and r5 mask))))) c14 (by omega) hC14 FK15 (show (i + 1) ≤ wide by omega) hE16 (show (wide - (i + 1)).toNat < m by omega)

set_option maxRecDepth 100000 in
set_option maxHeartbeats 4000000 in
theorem g_draw_L105 {g : Nat → Int} {Zi : Nat → Option (Nat × (Nat → Int))} {d n q : Nat} {D : Nat → Nat × Nat} {s : Nat → Int} {p : Nat → Nat} {c : Nat → Nat → Int}  {Q : mi_Rs → mi_H → Prop} (hd : 3 ≤ d) (hz : zk Zi) (hq : q + 6 ≤ 400001) (hD : wd n p) (hS : bS s) (hC : bC D c) (hW : wp q g n D p s) (E : Int → Int → Int → Int) (a_ : Int) (x : Int) (y : Int) (wide : Int) (high : Int) (v : Int) (u : Int) (mask : Int) (gr : Int) (fi : Int) (b_a_ : 0 ≤ a_ ∧ a_ ≤ 2) (b_x : 0 ≤ x ∧ x ≤ 63) (b_y : 0 ≤ y ∧ y ≤ 63) (b_wide : 1 ≤ wide ∧ wide ≤ 64) (b_high : 1 ≤ high ∧ high ≤ 64) (b_v : 0 ≤ v ∧ v ≤ 65535) (b_u : 0 ≤ u ∧ u ≤ 65535) (b_mask : 0 ≤ mask ∧ mask ≤ 65535) (b_gr : 3 ≤ gr ∧ gr ≤ 65535) (b_fi : 0 ≤ fi ∧ fi ≤ 12287) (hq0 : a_ < s 102 ∧ x + wide ≤ s 100 ∧ y + high ≤ s 101) (hq1 : fi = (a_ * s 101 + y) * s 100 + x)
  (hK : ∀ (j : Int) (o_12 : Option mi_V) (o_13 : Option mi_V) (o_14 : Option mi_V) (c0 : Nat → Nat → Int) (b_j : 0 ≤ j ∧ j ≤ 64) (hC0 : bC D c0) (hK0 : fk p c n p c0 [104]) (i0 : j ≤ high) (i1 : cv (dE E a_ x y wide high v u mask gr j 0) (s 100) (s 101) (s 102) (c0 (p 104))), (high ≤ j) → tt Zi d 95 (210, [some (.inr (.inl 0)), some (.inl a_), some (.inl x), some (.inl y), some (.inl wide), some (.inl high), some (.inl v), some (.inl u), some (.inl mask), some (.inl gr), some (.inl fi), some (.inl j), o_12, o_13, o_14], [], n, D, s, p, c0) Q) :
  ∀ (m : Nat) (j : Int) (o_12 : Option mi_V) (o_13 : Option mi_V) (o_14 : Option mi_V) (c0 : Nat → Nat → Int) (b_j : 0 ≤ j ∧ j ≤ 64) (hC0 : bC D c0) (hK0 : fk p c n p c0 [104]) (i0 : j ≤ high) (i1 : cv (dE E a_ x y wide high v u mask gr j 0) (s 100) (s 101) (s 102) (c0 (p 104))), (high - j).toNat < m → tt Zi d 95 (105, [some (.inr (.inl 0)), some (.inl a_), some (.inl x), some (.inl y), some (.inl wide), some (.inl high), some (.inl v), some (.inl u), some (.inl mask), some (.inl gr), some (.inl fi), some (.inl j), o_12, o_13, o_14], [], n, D, s, p, c0) Q := by
  intro m
  induction m with
  | zero => intro j o_12 o_13 o_14 c0 b_j hC0 hK0 i0 i1 hm; exact absurd hm (by omega)
  | succ m ih =>
    intro j o_12 o_13 o_14 c0 b_j hC0 hK0 i0 i1 hm
    refine tt_k 2 (S' := (109, [some (.inr (.inl 0)), some (.inl a_), some (.inl x), some (.inl y), some (.inl wide), some (.inl high), some (.inl v), some (.inl u), some (.inl mask), some (.inl gr), some (.inl fi), some (.inl j), o_12, o_13, o_14], [.inl high, .inl j], n, D, s, p, c0)) rfl ?_
    refine tb_ge (x := j) (y := high) rfl rfl (by omega) (fun h1 => ?_) (fun h1 => ?_)
    · show tt Zi d 95 (210, [some (.inr (.inl 0)), some (.inl a_), some (.inl x), some (.inl y), some (.inl wide), some (.inl high), some (.inl v), some (.inl u), some (.inl mask), some (.inl gr), some (.inl fi), some (.inl j), o_12, o_13, o_14], [], n, D, s, p, c0) _
      exact hK j (o_12) (o_13) (o_14) c0 (by omega) hC0 hK0 i0 i1 (by omega)
    · show tt Zi d 95 (112, [some (.inr (.inl 0)), some (.inl a_), some (.inl x), some (.inl y), some (.inl wide), some (.inl high), some (.inl v), some (.inl u), some (.inl mask), some (.inl gr), some (.inl fi), some (.inl j), o_12, o_13, o_14], [], n, D, s, p, c0) _
      refine tt_k 2 (S' := (115, [some (.inr (.inl 0)), some (.inl a_), some (.inl x), some (.inl y), some (.inl wide), some (.inl high), some (.inl v), some (.inl u), some (.inl mask), some (.inl gr), some (.inl fi), some (.inl j), some (.inl 0), o_13, o_14], [], n, D, s, p, c0)) rfl ?_
      have b2 : 1 ≤ (s 102) ∧ (s 102) ≤ 3 := hS 102
      have b3 : 1 ≤ (s 100) ∧ (s 100) ≤ 64 := hS 100
      have b4 : 1 ≤ (s 101) ∧ (s 101) ≤ 64 := hS 101
      refine g_draw_L115 (Zi := Zi) (q := q) (n := n) (D := D) (s := s) (p := p) (c := c0) hd hz (by omega) hK0.1 hS hC0 hW E a_ x y wide high v u mask gr fi j (by omega) (by omega) (by omega) (by omega) (by omega) (by omega) (by omega) (by omega) (by omega) (by omega) (by omega) (show a_ < (s 102) ∧ x + wide ≤ (s 100) ∧ y + high ≤ (s 101) by omega) (show fi = (a_ * (s 101) + y) * (s 100) + x by omega) (show j < high by omega)  ?_ _ 0 (o_13) (o_14) c0 (by omega) hC0 (fk_rf hK0.1) (show 0 ≤ wide by omega) i1 (Nat.lt_succ_self _)
      intro x5 x6 x7 c8 b9 hC8 kf10 i11 i12 hx13
      show tt Zi d 95 (204, [some (.inr (.inl 0)), some (.inl a_), some (.inl x), some (.inl y), some (.inl wide), some (.inl high), some (.inl v), some (.inl u), some (.inl mask), some (.inl gr), some (.inl fi), some (.inl j), some (.inl x5), x6, x7], [], n, D, s, p, c8) _
      have FK14 : fk p c n p c8 [104] := fk_tr hK0 kf10 (by decide)
      replace i11 : x5 ≤ wide := i11
      replace hx13 : wide ≤ x5 := hx13
      refine tt_k 2 (S' := (105, [some (.inr (.inl 0)), some (.inl a_), some (.inl x), some (.inl y), some (.inl wide), some (.inl high), some (.inl v), some (.inl u), some (.inl mask), some (.inl gr), some (.inl fi), some (.inl (j + 1)), some (.inl x5), x6, x7], [], n, D, s, p, c8)) rfl ?_
      exact ih (j + 1) (some (.inl x5)) (x6) (x7) c8 (by omega) hC8 FK14 (show (j + 1) ≤ high by omega) (cv_eq i12 (dE_j hx13)) (show (high - (j + 1)).toNat < m by omega)
set_option maxRecDepth 100000 in
set_option maxHeartbeats 4000000 in
theorem g_draw {g : Nat → Int} {Zi : Nat → Option (Nat × (Nat → Int))} {d n q : Nat} {D : Nat → Nat × Nat} {s : Nat → Int} {p : Nat → Nat} {c : Nat → Nat → Int} (hd : 3 ≤ d) (hz : zk Zi) (hq : q + 6 ≤ 400000) (hD : wd n p) (hS : bS s) (hC : bC D c) (hW : wp q g n D p s) (E : Int → Int → Int → Int) (a_ : Int) (x : Int) (y : Int) (wide : Int) (high : Int) (v : Int) (u : Int) (mask : Int) (b_a_ : -2147483648 ≤ a_ ∧ a_ ≤ 2147483647) (b_x : -2147483648 ≤ x ∧ x ≤ 2147483647) (b_y : -2147483648 ≤ y ∧ y ≤ 2147483647) (b_wide : -2147483648 ≤ wide ∧ wide ≤ 2147483647) (b_high : -2147483648 ≤ high ∧ high ≤ 2147483647) (b_v : -2147483648 ≤ v ∧ v ≤ 2147483647) (b_u : -2147483648 ≤ u ∧ u ≤ 2147483647) (b_mask : -2147483648 ≤ mask ∧ mask ≤ 2147483647) (hp0 : cv E (s 100) (s 101) (s 102) (c (p 104))) : tt Zi d 95 (0, [some (.inr (.inl 0)), some (.inl a_), some (.inl x), some (.inl y), some (.inl wide), some (.inl high), some (.inl v), some (.inl u), some (.inl mask), none, none, none, none, none, none], [], n, D, s, p, c) (fun R H => (R = .inl none ∧ cX (q + 1) g s p c [104] [] H ∧ ((0 ≤ a_ ∧ a_ < s 102 ∧ 0 < wide ∧ 0 < high ∧ 0 ≤ x ∧ 0 ≤ y ∧ x < s 100 ∧ y < s 101 ∧ wide ≤ s 100 - x ∧ high ≤ s 101 - y) ∧ ((0 ≤ v ∧ v ≤ mi_shl 1 (s 103) - 1) ∧ (0 ≤ u ∧ u ≤ mi_shl 1 (s 103) - 1) ∧ (0 ≤ mask ∧ mask ≤ 65535))) ∧ (cv (dE E a_ x y wide high v u mask (mi_shl 1 (s 103) - 1) high 0) (s 100) (s 101) (s 102) (H.2.2.2.2 (H.2.2.2.1 104)))) ∨ (R = .inr 13 ∧ cX (q + 1) g s p c [] LXR H ∧ ¬ (0 ≤ a_ ∧ a_ < s 102 ∧ 0 < wide ∧ 0 < high ∧ 0 ≤ x ∧ 0 ≤ y ∧ x < s 100 ∧ y < s 101 ∧ wide ≤ s 100 - x ∧ high ≤ s 101 - y)) ∨ (R = .inr 11 ∧ cX (q + 1) g s p c [] LXR H ∧ (0 ≤ a_ ∧ a_ < s 102 ∧ 0 < wide ∧ 0 < high ∧ 0 ≤ x ∧ 0 ≤ y ∧ x < s 100 ∧ y < s 101 ∧ wide ≤ s 100 - x ∧ high ≤ s 101 - y) ∧ ¬ ((0 ≤ v ∧ v ≤ mi_shl 1 (s 103) - 1) ∧ (0 ≤ u ∧ u ≤ mi_shl 1 (s 103) - 1) ∧ (0 ≤ mask ∧ mask ≤ 65535)))) := by
  refine tt_k 5 (S' := (7, [some (.inr (.inl 0)), some (.inl a_), some (.inl x), some (.inl y), some (.inl wide), some (.inl high), some (.inl v), some (.inl u), some (.inl mask), none, none, none, none, none, none], [.inl y, .inl x, .inl a_, .inr (.inl 1)], n, D, s, p, c)) rfl ?_
  refine tt_cl (by omega) rfl (g_has1 (Zi := Zi) (q := q) (n := n) (D := D) (s := s) (p := p) (c := c) (by omega) hz (by omega) hD hS hC hW a_ x y (by omega) (by omega) (by omega)) ?_
  rintro _ _ ⟨r1, rfl, rfl, b2, k3⟩
  show tt Zi d 95 (10, [some (.inr (.inl 0)), some (.inl a_), some (.inl x), some (.inl y), some (.inl wide), some (.inl high), some (.inl v), some (.inl u), some (.inl mask), none, none, none, none, none, none], [.inl r1], n, D, s, p, c) _
  replace k3 : r1 = 1 ↔ ((0 ≤ a_ ∧ a_ < (s 102)) ∧ (0 ≤ x ∧ x < (s 100)) ∧ (0 ≤ y ∧ y < (s 101))) := k3
  have b4 : 1 ≤ (s 102) ∧ (s 102) ≤ 3 := hS 102
  have b5 : 1 ≤ (s 100) ∧ (s 100) ≤ 64 := hS 100
  have b6 : 1 ≤ (s 101) ∧ (s 101) ≤ 64 := hS 101
  refine tz_eq (x := r1) rfl rfl (by omega) (fun h7 => ?_) (fun h7 => ?_)
  · show tt Zi d 95 (29, [some (.inr (.inl 0)), some (.inl a_), some (.inl x), some (.inl y), some (.inl wide), some (.inl high), some (.inl v), some (.inl u), some (.inl mask), none, none, none, none, none, none], [], n, D, s, p, c) _
    have hn8 := wp_n hW (by omega)
    exact tt_thr (q := (13, 955)) rfl rfl (by decide) (by decide) (by omega) (by omega) (Or.inr (Or.inl ⟨rfl, cX_mono (q := q + 1) ⟨hS, bC_x hC (hW).dz (by decide), wp_x hW, fk_x (fk_rf hD), (show fr s s LXR from fr_rf)⟩ (by omega), by omega⟩))
  · show tt Zi d 95 (13, [some (.inr (.inl 0)), some (.inl a_), some (.inl x), some (.inl y), some (.inl wide), some (.inl high), some (.inl v), some (.inl u), some (.inl mask), none, none, none, none, none, none], [], n, D, s, p, c) _
    refine tt_k 6 (S' := (23, [some (.inr (.inl 0)), some (.inl a_), some (.inl x), some (.inl y), some (.inl wide), some (.inl high), some (.inl v), some (.inl u), some (.inl mask), none, none, none, none, none, none], [.inl high, .inl wide, .inl y, .inl x, .inr (.inl 1)], n, D, s, p, c)) rfl ?_
    refine tt_cl (by omega) rfl (g_hasRoom1 (Zi := Zi) (q := q) (n := n) (D := D) (s := s) (p := p) (c := c) (by omega) hz (by omega) hD hS hC hW x y wide high (by omega) (by omega) (by omega) (by omega)) ?_
    rintro _ _ ⟨r9, rfl, rfl, b10, k11⟩
    show tt Zi d 95 (26, [some (.inr (.inl 0)), some (.inl a_), some (.inl x), some (.inl y), some (.inl wide), some (.inl high), some (.inl v), some (.inl u), some (.inl mask), none, none, none, none, none, none], [.inl r9], n, D, s, p, c) _
    replace k11 : r9 = 1 ↔ ((1 ≤ wide ∧ wide ≤ (s 100) - x) ∧ (1 ≤ high ∧ high ≤ (s 101) - y)) := k11
    refine tz_ne (x := r9) rfl rfl (by omega) (fun h12 => ?_) (fun h12 => ?_)
    · show tt Zi d 95 (37, [some (.inr (.inl 0)), some (.inl a_), some (.inl x), some (.inl y), some (.inl wide), some (.inl high), some (.inl v), some (.inl u), some (.inl mask), none, none, none, none, none, none], [], n, D, s, p, c) _
      refine tt_k 2 (S' := (41, [some (.inr (.inl 0)), some (.inl a_), some (.inl x), some (.inl y), some (.inl wide), some (.inl high), some (.inl v), some (.inl u), some (.inl mask), none, none, none, none, none, none], [.inr (.inl 1)], n, D, s, p, c)) rfl ?_
      refine tt_cl (by omega) rfl (g_greatest1 (Zi := Zi) (q := q) (n := n) (D := D) (s := s) (p := p) (c := c) (by omega) hz (by omega) hD hS hC hW ) ?_
      rintro _ _ ⟨r13, rfl, rfl, b14, k15⟩
      show tt Zi d 95 (44, [some (.inr (.inl 0)), some (.inl a_), some (.inl x), some (.inl y), some (.inl wide), some (.inl high), some (.inl v), some (.inl u), some (.inl mask), none, none, none, none, none, none], [.inl r13], n, D, s, p, c) _
      replace k15 : r13 = mi_shl 1 ((s 103)) - 1 := k15
      have b16 : 2 ≤ (s 103) ∧ (s 103) ≤ 16 := hS 103
      refine tt_k 2 (S' := (48, [some (.inr (.inl 0)), some (.inl a_), some (.inl x), some (.inl y), some (.inl wide), some (.inl high), some (.inl v), some (.inl u), some (.inl mask), some (.inl r13), none, none, none, none, none], [.inl v], n, D, s, p, c)) rfl ?_
      refine tz_lt (x := v) rfl rfl (by omega) (fun h17 => ?_) (fun h17 => ?_)
      · show tt Zi d 95 (82, [some (.inr (.inl 0)), some (.inl a_), some (.inl x), some (.inl y), some (.inl wide), some (.inl high), some (.inl v), some (.inl u), some (.inl mask), some (.inl r13), none, none, none, none, none], [], n, D, s, p, c) _
        have hn18 := wp_n hW (by omega)
        exact tt_thr (q := (11, 923)) rfl rfl (by decide) (by decide) (by omega) (by omega) (Or.inr (Or.inr ⟨rfl, cX_mono (q := q + 1) ⟨hS, bC_x hC (hW).dz (by decide), wp_x hW, fk_x (fk_rf hD), (show fr s s LXR from fr_rf)⟩ (by omega), by omega⟩))
      · show tt Zi d 95 (51, [some (.inr (.inl 0)), some (.inl a_), some (.inl x), some (.inl y), some (.inl wide), some (.inl high), some (.inl v), some (.inl u), some (.inl mask), some (.inl r13), none, none, none, none, none], [], n, D, s, p, c) _
        refine tt_k 2 (S' := (55, [some (.inr (.inl 0)), some (.inl a_), some (.inl x), some (.inl y), some (.inl wide), some (.inl high), some (.inl v), some (.inl u), some (.inl mask), some (.inl r13), none, none, none, none, none], [.inl r13, .inl v], n, D, s, p, c)) rfl ?_
        refine tb_gt (x := v) (y := r13) rfl rfl (by omega) (fun h19 => ?_) (fun h19 => ?_)
        · show tt Zi d 95 (82, [some (.inr (.inl 0)), some (.inl a_), some (.inl x), some (.inl y), some (.inl wide), some (.inl high), some (.inl v), some (.inl u), some (.inl mask), some (.inl r13), none, none, none, none, none], [], n, D, s, p, c) _
          have hn20 := wp_n hW (by omega)
          exact tt_thr (q := (11, 923)) rfl rfl (by decide) (by decide) (by omega) (by omega) (Or.inr (Or.inr ⟨rfl, cX_mono (q := q + 1) ⟨hS, bC_x hC (hW).dz (by decide), wp_x hW, fk_x (fk_rf hD), (show fr s s LXR from fr_rf)⟩ (by omega), by omega⟩))
        · show tt Zi d 95 (58, [some (.inr (.inl 0)), some (.inl a_), some (.inl x), some (.inl y), some (.inl wide), some (.inl high), some (.inl v), some (.inl u), some (.inl mask), some (.inl r13), none, none, none, none, none], [], n, D, s, p, c) _
          refine tt_k 1 (S' := (60, [some (.inr (.inl 0)), some (.inl a_), some (.inl x), some (.inl y), some (.inl wide), some (.inl high), some (.inl v), some (.inl u), some (.inl mask), some (.inl r13), none, none, none, none, none], [.inl u], n, D, s, p, c)) rfl ?_
          refine tz_lt (x := u) rfl rfl (by omega) (fun h21 => ?_) (fun h21 => ?_)
          · show tt Zi d 95 (82, [some (.inr (.inl 0)), some (.inl a_), some (.inl x), some (.inl y), some (.inl wide), some (.inl high), some (.inl v), some (.inl u), some (.inl mask), some (.inl r13), none, none, none, none, none], [], n, D, s, p, c) _
            have hn22 := wp_n hW (by omega)
            exact tt_thr (q := (11, 923)) rfl rfl (by decide) (by decide) (by omega) (by omega) (Or.inr (Or.inr ⟨rfl, cX_mono (q := q + 1) ⟨hS, bC_x hC (hW).dz (by decide), wp_x hW, fk_x (fk_rf hD), (show fr s s LXR from fr_rf)⟩ (by omega), by omega⟩))
          · show tt Zi d 95 (63, [some (.inr (.inl 0)), some (.inl a_), some (.inl x), some (.inl y), some (.inl wide), some (.inl high), some (.inl v), some (.inl u), some (.inl mask), some (.inl r13), none, none, none, none, none], [], n, D, s, p, c) _
            refine tt_k 2 (S' := (67, [some (.inr (.inl 0)), some (.inl a_), some (.inl x), some (.inl y), some (.inl wide), some (.inl high), some (.inl v), some (.inl u), some (.inl mask), some (.inl r13), none, none, none, none, none], [.inl r13, .inl u], n, D, s, p, c)) rfl ?_
            refine tb_gt (x := u) (y := r13) rfl rfl (by omega) (fun h23 => ?_) (fun h23 => ?_)
            · show tt Zi d 95 (82, [some (.inr (.inl 0)), some (.inl a_), some (.inl x), some (.inl y), some (.inl wide), some (.inl high), some (.inl v), some (.inl u), some (.inl mask), some (.inl r13), none, none, none, none, none], [], n, D, s, p, c) _
              have hn24 := wp_n hW (by omega)
              exact tt_thr (q := (11, 923)) rfl rfl (by decide) (by decide) (by omega) (by omega) (Or.inr (Or.inr ⟨rfl, cX_mono (q := q + 1) ⟨hS, bC_x hC (hW).dz (by decide), wp_x hW, fk_x (fk_rf hD), (show fr s s LXR from fr_rf)⟩ (by omega), by omega⟩))
            · show tt Zi d 95 (70, [some (.inr (.inl 0)), some (.inl a_), some (.inl x), some (.inl y), some (.inl wide), some (.inl high), some (.inl v), some (.inl u), some (.inl mask), some (.inl r13), none, none, none, none, none], [], n, D, s, p, c) _
              refine tt_k 1 (S' := (72, [some (.inr (.inl 0)), some (.inl a_), some (.inl x), some (.inl y), some (.inl wide), some (.inl high), some (.inl v), some (.inl u), some (.inl mask), some (.inl r13), none, none, none, none, none], [.inl mask], n, D, s, p, c)) rfl ?_
              refine tz_lt (x := mask) rfl rfl (by omega) (fun h25 => ?_) (fun h25 => ?_)
              · show tt Zi d 95 (82, [some (.inr (.inl 0)), some (.inl a_), some (.inl x), some (.inl y), some (.inl wide), some (.inl high), some (.inl v), some (.inl u), some (.inl mask), some (.inl r13), none, none, none, none, none], [], n, D, s, p, c) _
                have hn26 := wp_n hW (by omega)
                exact tt_thr (q := (11, 923)) rfl rfl (by decide) (by decide) (by omega) (by omega) (Or.inr (Or.inr ⟨rfl, cX_mono (q := q + 1) ⟨hS, bC_x hC (hW).dz (by decide), wp_x hW, fk_x (fk_rf hD), (show fr s s LXR from fr_rf)⟩ (by omega), by omega⟩))
              · show tt Zi d 95 (75, [some (.inr (.inl 0)), some (.inl a_), some (.inl x), some (.inl y), some (.inl wide), some (.inl high), some (.inl v), some (.inl u), some (.inl mask), some (.inl r13), none, none, none, none, none], [], n, D, s, p, c) _
                refine tt_k 2 (S' := (79, [some (.inr (.inl 0)), some (.inl a_), some (.inl x), some (.inl y), some (.inl wide), some (.inl high), some (.inl v), some (.inl u), some (.inl mask), some (.inl r13), none, none, none, none, none], [.inl 65535, .inl mask], n, D, s, p, c)) rfl ?_
                refine tb_le (x := mask) (y := 65535) rfl rfl (by omega) (fun h27 => ?_) (fun h27 => ?_)
                · show tt Zi d 95 (90, [some (.inr (.inl 0)), some (.inl a_), some (.inl x), some (.inl y), some (.inl wide), some (.inl high), some (.inl v), some (.inl u), some (.inl mask), some (.inl r13), none, none, none, none, none], [], n, D, s, p, c) _
                  refine tt_k 5 (S' := (97, [some (.inr (.inl 0)), some (.inl a_), some (.inl x), some (.inl y), some (.inl wide), some (.inl high), some (.inl v), some (.inl u), some (.inl mask), some (.inl r13), none, none, none, none, none], [.inl y, .inl x, .inl a_, .inr (.inl 1)], n, D, s, p, c)) rfl ?_
                  refine tt_cl (by omega) rfl (g_index1 (Zi := Zi) (q := q) (n := n) (D := D) (s := s) (p := p) (c := c) (by omega) hz (by omega) hD hS hC hW a_ x y (by omega) (by omega) (by omega) (show a_ < (s 102) ∧ x < (s 100) ∧ y < (s 101) by omega)) ?_
                  rintro _ _ ⟨r28, rfl, rfl, b29, k30, k31⟩
                  show tt Zi d 95 (100, [some (.inr (.inl 0)), some (.inl a_), some (.inl x), some (.inl y), some (.inl wide), some (.inl high), some (.inl v), some (.inl u), some (.inl mask), some (.inl r13), none, none, none, none, none], [.inl r28], n, D, s, p, c) _
                  replace k30 : r28 = (a_ * (s 101) + y) * (s 100) + x := k30
                  replace k31 : r28 + (s 100) - x ≤ (s 100) * (s 101) * (s 102) := k31
                  refine tt_k 3 (S' := (105, [some (.inr (.inl 0)), some (.inl a_), some (.inl x), some (.inl y), some (.inl wide), some (.inl high), some (.inl v), some (.inl u), some (.inl mask), some (.inl r13), some (.inl r28), some (.inl 0), none, none, none], [], n, D, s, p, c)) rfl ?_
                  refine g_draw_L105 (Zi := Zi) (q := q) (n := n) (D := D) (s := s) (p := p) (c := c) hd hz (by omega) hD hS hC hW E a_ x y wide high v u mask r13 r28 (by omega) (by omega) (by omega) (by omega) (by omega) (by omega) (by omega) (by omega) (by omega) (by omega) (show a_ < (s 102) ∧ x + wide ≤ (s 100) ∧ y + high ≤ (s 101) by omega) (show r28 = (a_ * (s 101) + y) * (s 100) + x by omega)  ?_ _ 0 (none) (none) (none) c (by omega) hC (fk_rf hD) (show 0 ≤ high by omega) (cv_eq hp0 dE_0) (Nat.lt_succ_self _)
                  intro x32 x33 x34 x35 c36 b37 hC36 kf38 i39 i40 hx41
                  show tt Zi d 95 (210, [some (.inr (.inl 0)), some (.inl a_), some (.inl x), some (.inl y), some (.inl wide), some (.inl high), some (.inl v), some (.inl u), some (.inl mask), some (.inl r13), some (.inl r28), some (.inl x32), x33, x34, x35], [], n, D, s, p, c36) _
                  have FK42 : fk p c n p c36 [104] := fk_tr (fk_rf hD) kf38 (by decide)
                  replace i39 : x32 ≤ high := i39
                  replace hx41 : high ≤ x32 := hx41
                  have hE1 : cv (dE E a_ x y wide high v u mask (mi_shl 1 (s 103) - 1) high 0) (s 100) (s 101) (s 102) (c36 (p 104)) := by
                    have e : x32 = high := by omega
                    have h := i40
                    rw [e, k15] at h
                    exact h
                  exact tt_rtv rfl rfl (Or.inl ⟨rfl, cX_mono (q := q) (show cX q g s p c [104] [] (n, D, s, p, c36) from ⟨hS, hC36, hW, FK42, (show fr s s [] from fr_rf)⟩) (by omega), by omega, by exact hE1⟩)
                · show tt Zi d 95 (82, [some (.inr (.inl 0)), some (.inl a_), some (.inl x), some (.inl y), some (.inl wide), some (.inl high), some (.inl v), some (.inl u), some (.inl mask), some (.inl r13), none, none, none, none, none], [], n, D, s, p, c) _
                  have hn43 := wp_n hW (by omega)
                  exact tt_thr (q := (11, 923)) rfl rfl (by decide) (by decide) (by omega) (by omega) (Or.inr (Or.inr ⟨rfl, cX_mono (q := q + 1) ⟨hS, bC_x hC (hW).dz (by decide), wp_x hW, fk_x (fk_rf hD), (show fr s s LXR from fr_rf)⟩ (by omega), by omega⟩))
    · show tt Zi d 95 (29, [some (.inr (.inl 0)), some (.inl a_), some (.inl x), some (.inl y), some (.inl wide), some (.inl high), some (.inl v), some (.inl u), some (.inl mask), none, none, none, none, none, none], [], n, D, s, p, c) _
      have hn44 := wp_n hW (by omega)
      exact tt_thr (q := (13, 955)) rfl rfl (by decide) (by decide) (by omega) (by omega) (Or.inr (Or.inl ⟨rfl, cX_mono (q := q + 1) ⟨hS, bC_x hC (hW).dz (by decide), wp_x hW, fk_x (fk_rf hD), (show fr s s LXR from fr_rf)⟩ (by omega), by omega⟩))
set_option maxRecDepth 100000 in
set_option maxHeartbeats 4000000 in
theorem g_unpack {g : Nat → Int} {Zi : Nat → Option (Nat × (Nat → Int))} {d n q : Nat} {D : Nat → Nat × Nat} {s : Nat → Int} {p : Nat → Nat} {c : Nat → Nat → Int} (hd : 10 ≤ d) (hz : zk Zi) (hq : q + 20 ≤ 400000) (hD : wd n p) (hS : bS s) (hC : bC D c) (hW : wp q g n D p s)  : tt Zi d 15 (0, [some (.inr (.inl 0)), none], [], n, D, s, p, c) (fun R H => (∃ r : Int, R = .inl (some (.inl r)) ∧ (0 ≤ r ∧ r ≤ 8) ∧ cX (q + 1) g s p c [18, 19, 900, 901, 2103, 2104, 2504, 2704] [10, 11, 800, 801, 802, 803, 804, 805, 806, 807, 808, 809, 902, 1705, 1706, 2001, 2002, 2003, 2004, 2005, 2006, 2106, 2107, 2108, 2109, 2110, 2111, 2112, 2113, 2114, 2115, 2116, 2500, 2501, 2502, 2503, 2700, 2701, 2702, 2703] H)) := by
  rcases (hW).pp with ⟨hp8, hp9⟩ | ⟨hp8, hp9⟩
  · skip
    refine tt_k 4 (S' := (8, [some (.inr (.inl 0)), none], [.inr (.inl (p 9)), .inr (.inl 17)], n, D, s, p, c)) rfl ?_
    rw [hp9]
    show tt Zi d 15 (8, [some (.inr (.inl 0)), none], [.inr (.inl 27), .inr (.inl 17)], n, D, s, p, c) _
    refine tt_cl (by omega) rfl (g_readRow27 (Zi := Zi) (q := q) (n := n) (D := D) (s := s) (p := p) (c := c) (by omega) hz (by omega) hD hS hC hW ) ?_
    rintro _ H1 (⟨n1, D2, s3, p4, c5, rfl, rfl, hS3, hC5, hW6, f7, g8, xe9, kf10⟩ | ⟨rfl, hY11⟩)
    rotate_left
    · obtain ⟨n12, D13, s14, p15, c16⟩ := H1
      obtain ⟨hS14, hC16, hW15, FKp15, Fxs14⟩ : cX _ g s p c [18, 19, 900, 901, 2103, 2104, 2504, 2704] LXR _ := (cX_trx (fk_rf hD) (show fr s s LXR from fr_rf) hY11 (by decide))
      have hS14 : bS s14 := hS14
      have hC16 : bC D13 c16 := hC16
      have hW15 : wp _ _ n12 D13 p15 s14 := hW15
      have Fxs14 : fr s s14 LXR := Fxs14
      show tt Zi d 15 (14, [some (.inr (.inl 0)), none], [.inr (.inl (47 + n12))], n12, D13, s14, p15, c16) _
      refine tt_k 11 (S' := (39, [some (.inr (.inl 0)), some (.inr (.inl (47 + n12)))], [.inl (s14 2005)], n12, D13, (us s14 11 (s14 2006)), p15, c16)) rfl ?_
      have b17 : 0 ≤ (s14 2005) ∧ (s14 2005) ≤ 8 := hS14 2005
      have b18 : -1 ≤ (s14 2006) ∧ (s14 2006) ≤ 100000 := hS14 2006
      exact tt_rti rfl rfl ⟨(s14 2005), rfl, by omega, cX_mono (q := (q + 1)) (show cX (q + 1) g s p c [18, 19, 900, 901, 2103, 2104, 2504, 2704] [10, 11, 800, 801, 802, 803, 804, 805, 806, 807, 808, 809, 902, 1705, 1706, 2001, 2002, 2003, 2004, 2005, 2006, 2106, 2107, 2108, 2109, 2110, 2111, 2112, 2113, 2114, 2115, 2116, 2500, 2501, 2502, 2503, 2700, 2701, 2702, 2703] (n12, D13, (us s14 11 (s14 2006)), p15, c16) from ⟨(bS_us hS14 (show -1 ≤ (s14 2006) ∧ (s14 2006) ≤ 100000 by omega)), hC16, (wp_us (by decide) hW15), FKp15, (show fr s (us s14 11 (s14 2006)) [10, 11, 800, 801, 802, 803, 804, 805, 806, 807, 808, 809, 902, 1705, 1706, 2001, 2002, 2003, 2004, 2005, 2006, 2106, 2107, 2108, 2109, 2110, 2111, 2112, 2113, 2114, 2115, 2116, 2500, 2501, 2502, 2503, 2700, 2701, 2702, 2703] from (fr_us (by decide) (fr_wk Fxs14 (by decide))))⟩) (by omega)⟩
    have FK19 : fk p c n1 p4 c5 [18, 19, 900, 901, 2103, 2104, 2504, 2704] := fk_tr (fk_rf hD) kf10 (by decide)
    show tt Zi d 15 (11, [some (.inr (.inl 0)), none], [], n1, D2, s3, p4, c5) _
    have hp8x : p4 8 = 25 := (g8 8 (by decide)).trans hp8
    have hp9x : p4 9 = 27 := (g8 9 (by decide)).trans hp9
    refine tt_k 3 (S' := (44, [some (.inr (.inl 0)), none], [.inr (.inl (p4 8))], n1, D2, s3, p4, c5)) rfl ?_
    rw [hp8x]
    show tt Zi d 15 (44, [some (.inr (.inl 0)), none], [.inr (.inl 25)], n1, D2, s3, p4, c5) _
    refine tt_k 4 (S' := (50, [some (.inr (.inl 0)), some (.inr (.inl 25))], [.inr (.inl (p4 9)), .inr (.inl 0)], n1, D2, s3, p4, c5)) rfl ?_
    rw [hp9x]
    show tt Zi d 15 (50, [some (.inr (.inl 0)), some (.inr (.inl 25))], [.inr (.inl 27), .inr (.inl 0)], n1, D2, s3, p4, c5) _
    refine tt_k 11 (S' := (69, [some (.inr (.inl 0)), some (.inr (.inl 25))], [.inl 0], n1, D2, (us (us s3 10 1) 11 (-1)), (up (up p4 8 27) 9 25), c5)) rfl ?_
    exact tt_rti rfl rfl ⟨0, rfl, by omega, cX_mono (q := q) (show cX q g s p c [18, 19, 900, 901, 2103, 2104, 2504, 2704] [10, 11, 800, 801, 802, 803, 804, 805, 806, 807, 808, 809, 902, 1705, 1706, 2001, 2002, 2003, 2004, 2005, 2006, 2106, 2107, 2108, 2109, 2110, 2111, 2112, 2113, 2114, 2115, 2116, 2500, 2501, 2502, 2503, 2700, 2701, 2702, 2703] (n1, D2, (us (us s3 10 1) 11 (-1)), (up (up p4 8 27) 9 25), c5) from ⟨(bS_us (bS_us hS3 (show 0 ≤ 1 ∧ 1 ≤ 1 by omega)) (show -1 ≤ (-1) ∧ (-1) ≤ 100000 by omega)), hC5, (wp_us (by decide) (wp_us (by decide) (wp_pp1 hW6))), (fk_up (by decide) (fk_up (by decide) FK19)), (show fr s (us (us s3 10 1) 11 (-1)) [10, 11, 800, 801, 802, 803, 804, 805, 806, 807, 808, 809, 902, 1705, 1706, 2001, 2002, 2003, 2004, 2005, 2006, 2106, 2107, 2108, 2109, 2110, 2111, 2112, 2113, 2114, 2115, 2116, 2500, 2501, 2502, 2503, 2700, 2701, 2702, 2703] from (fr_us (by decide) (fr_us (by decide) (fr_tr fr_rf f7 (by decide)))))⟩) (by omega)⟩
  · skip
    refine tt_k 4 (S' := (8, [some (.inr (.inl 0)), none], [.inr (.inl (p 9)), .inr (.inl 17)], n, D, s, p, c)) rfl ?_
    rw [hp9]
    show tt Zi d 15 (8, [some (.inr (.inl 0)), none], [.inr (.inl 25), .inr (.inl 17)], n, D, s, p, c) _
    refine tt_cl (by omega) rfl (g_readRow25 (Zi := Zi) (q := q) (n := n) (D := D) (s := s) (p := p) (c := c) (by omega) hz (by omega) hD hS hC hW ) ?_
    rintro _ H1 (⟨n20, D21, s22, p23, c24, rfl, rfl, hS22, hC24, hW25, f26, g27, xe28, kf29⟩ | ⟨rfl, hY30⟩)
    rotate_left
    · obtain ⟨n31, D32, s33, p34, c35⟩ := H1
      obtain ⟨hS33, hC35, hW34, FKp34, Fxs33⟩ : cX _ g s p c [18, 19, 900, 901, 2103, 2104, 2504, 2704] LXR _ := (cX_trx (fk_rf hD) (show fr s s LXR from fr_rf) hY30 (by decide))
      have hS33 : bS s33 := hS33
      have hC35 : bC D32 c35 := hC35
      have hW34 : wp _ _ n31 D32 p34 s33 := hW34
      have Fxs33 : fr s s33 LXR := Fxs33
      show tt Zi d 15 (14, [some (.inr (.inl 0)), none], [.inr (.inl (47 + n31))], n31, D32, s33, p34, c35) _
      refine tt_k 11 (S' := (39, [some (.inr (.inl 0)), some (.inr (.inl (47 + n31)))], [.inl (s33 2005)], n31, D32, (us s33 11 (s33 2006)), p34, c35)) rfl ?_
      have b36 : 0 ≤ (s33 2005) ∧ (s33 2005) ≤ 8 := hS33 2005
      have b37 : -1 ≤ (s33 2006) ∧ (s33 2006) ≤ 100000 := hS33 2006
      exact tt_rti rfl rfl ⟨(s33 2005), rfl, by omega, cX_mono (q := (q + 1)) (show cX (q + 1) g s p c [18, 19, 900, 901, 2103, 2104, 2504, 2704] [10, 11, 800, 801, 802, 803, 804, 805, 806, 807, 808, 809, 902, 1705, 1706, 2001, 2002, 2003, 2004, 2005, 2006, 2106, 2107, 2108, 2109, 2110, 2111, 2112, 2113, 2114, 2115, 2116, 2500, 2501, 2502, 2503, 2700, 2701, 2702, 2703] (n31, D32, (us s33 11 (s33 2006)), p34, c35) from ⟨(bS_us hS33 (show -1 ≤ (s33 2006) ∧ (s33 2006) ≤ 100000 by omega)), hC35, (wp_us (by decide) hW34), FKp34, (show fr s (us s33 11 (s33 2006)) [10, 11, 800, 801, 802, 803, 804, 805, 806, 807, 808, 809, 902, 1705, 1706, 2001, 2002, 2003, 2004, 2005, 2006, 2106, 2107, 2108, 2109, 2110, 2111, 2112, 2113, 2114, 2115, 2116, 2500, 2501, 2502, 2503, 2700, 2701, 2702, 2703] from (fr_us (by decide) (fr_wk Fxs33 (by decide))))⟩) (by omega)⟩
    have FK38 : fk p c n20 p23 c24 [18, 19, 900, 901, 2103, 2104, 2504, 2704] := fk_tr (fk_rf hD) kf29 (by decide)
    show tt Zi d 15 (11, [some (.inr (.inl 0)), none], [], n20, D21, s22, p23, c24) _
    have hp8x : p23 8 = 27 := (g27 8 (by decide)).trans hp8
    have hp9x : p23 9 = 25 := (g27 9 (by decide)).trans hp9
    refine tt_k 3 (S' := (44, [some (.inr (.inl 0)), none], [.inr (.inl (p23 8))], n20, D21, s22, p23, c24)) rfl ?_
    rw [hp8x]
    show tt Zi d 15 (44, [some (.inr (.inl 0)), none], [.inr (.inl 27)], n20, D21, s22, p23, c24) _
    refine tt_k 4 (S' := (50, [some (.inr (.inl 0)), some (.inr (.inl 27))], [.inr (.inl (p23 9)), .inr (.inl 0)], n20, D21, s22, p23, c24)) rfl ?_
    rw [hp9x]
    show tt Zi d 15 (50, [some (.inr (.inl 0)), some (.inr (.inl 27))], [.inr (.inl 25), .inr (.inl 0)], n20, D21, s22, p23, c24) _
    refine tt_k 11 (S' := (69, [some (.inr (.inl 0)), some (.inr (.inl 27))], [.inl 0], n20, D21, (us (us s22 10 1) 11 (-1)), (up (up p23 8 25) 9 27), c24)) rfl ?_
    exact tt_rti rfl rfl ⟨0, rfl, by omega, cX_mono (q := q) (show cX q g s p c [18, 19, 900, 901, 2103, 2104, 2504, 2704] [10, 11, 800, 801, 802, 803, 804, 805, 806, 807, 808, 809, 902, 1705, 1706, 2001, 2002, 2003, 2004, 2005, 2006, 2106, 2107, 2108, 2109, 2110, 2111, 2112, 2113, 2114, 2115, 2116, 2500, 2501, 2502, 2503, 2700, 2701, 2702, 2703] (n20, D21, (us (us s22 10 1) 11 (-1)), (up (up p23 8 25) 9 27), c24) from ⟨(bS_us (bS_us hS22 (show 0 ≤ 1 ∧ 1 ≤ 1 by omega)) (show -1 ≤ (-1) ∧ (-1) ≤ 100000 by omega)), hC24, (wp_us (by decide) (wp_us (by decide) (wp_pp2 hW25))), (fk_up (by decide) (fk_up (by decide) FK38)), (show fr s (us (us s22 10 1) 11 (-1)) [10, 11, 800, 801, 802, 803, 804, 805, 806, 807, 808, 809, 902, 1705, 1706, 2001, 2002, 2003, 2004, 2005, 2006, 2106, 2107, 2108, 2109, 2110, 2111, 2112, 2113, 2114, 2115, 2116, 2500, 2501, 2502, 2503, 2700, 2701, 2702, 2703] from (fr_us (by decide) (fr_us (by decide) (fr_tr fr_rf f26 (by decide)))))⟩) (by omega)⟩
