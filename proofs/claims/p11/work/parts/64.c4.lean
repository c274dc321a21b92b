/-! the class's tape reader -/
theorem tm2_bd (x : Int) : -1 ≤ x.tmod 2 ∧ x.tmod 2 ≤ 1 := by
  rcases Int.le_total 0 x with h | h
  · rw [Int.tmod_eq_emod_of_nonneg h]
    omega
  · have e : x.tmod 2 = -((-x).tmod 2) := by rw [Int.neg_tmod, Int.neg_neg]
    rw [e, Int.tmod_eq_emod_of_nonneg (by omega)]
    omega
theorem tt_rmn {Zi : Nat → Option (Nat × (Nat → Int))} {d M pc len : Nat} {ls : List (Option mi_V)} {st : List mi_V} {H : mi_H} {Q : mi_Rs → mi_H → Prop} {x y : Int} (hk : mm_kT M pc = some (.irem, len)) (hr : (-2147483648 ≤ x ∧ x ≤ 2147483647) ∧ 0 < y ∧ y ≤ 2147483647) (g : tt Zi d M (pc + 1, ls, .inl (x.tmod y) :: st, H) Q) : tt Zi d M (pc, ls, .inl y :: .inl x :: st, H) Q := by
  obtain ⟨k, r, w, h1, h2⟩ := g
  refine ⟨k + 1, r, w, ?_, h2⟩
  have hy0 : ¬ Int32.ofInt y = 0 := by
    intro e
    have e2 := congrArg Int32.toInt e
    rw [mi_ti (by omega)] at e2
    have : (0 : Int32).toInt = 0 := rfl
    omega
  have e4 : Int32.ofInt (x.tmod y) = Int32.ofInt x - Int32.ofInt x / Int32.ofInt y * Int32.ofInt y := by
    rw [← mi_tdiv_ok hr.1 hr.2.1 hr.2.2, ← Int32.ofInt_mul, ← Int32.ofInt_sub, Int.tmod_def, Int.mul_comm]
  have hp : mm_pure .irem pc (mi_cl ls) (mi_cs (.inl y :: .inl x :: st)) = some (pc + 1, mi_cl ls, .int (Int32.ofInt (x.tmod y)) :: mi_cs st) := by
    show (if Int32.ofInt y = 0 then none else some (pc + 1, mi_cl ls, Value.int (Int32.ofInt x - Int32.ofInt x / Int32.ofInt y * Int32.ofInt y) :: mi_cs st)) = _
    rw [if_neg hy0, e4]
  have ha : mm_act (mi_cz Zi) M (mi_cS (pc, ls, .inl y :: .inl x :: st, H)) = some (.inl (mi_cS (pc + 1, ls, .inl (x.tmod y) :: st, H))) := by
    apply mm_actF_le
    unfold mm_actF
    show (match mm_kT M pc with | some (i, _) => _ | none => none) = _
    rw [hk]
    show (match mm_pure .irem pc (mi_cl ls) (mi_cs (.inl y :: .inl x :: st)) with | some q => some (Sum.inl (q.1, q.2.1, q.2.2, mi_mk H)) | none => none : Option mm_Ac) = _
    rw [hp]
    rfl
  rw [mm_ex]
  simp only [ha]
  exact h1
set_option maxRecDepth 100000 in
set_option maxHeartbeats 4000000 in
theorem g_tbegin {g : Nat → Int} {Zi : Nat → Option (Nat × (Nat → Int))} {d n q : Nat} {D : Nat → Nat × Nat} {s : Nat → Int} {p : Nat → Nat} {c : Nat → Nat → Int} (hd : 0 ≤ d) (hz : zk Zi) (hq : q + 0 ≤ 400000) (hD : wd n p) (hS : bS s) (hC : bC D c) (hW : wp q g n D p s)  : tt Zi d 17 (0, [some (.inr (.inl 20))], [], n, D, s, p, c) (fun R H => ∃ (s' : Nat → Int), R = .inl none ∧ H = (n, D, s', p, c) ∧ bS s' ∧ wp q g n D p s' ∧ fr s s' [2001] ∧ (s' 2001 = 0)) := by
  refine tt_k 3 (S' := (5, [some (.inr (.inl 20))], [], n, D, (us s 2001 0), p, c)) rfl ?_
  exact tt_rtv rfl rfl ⟨(us s 2001 0), rfl, rfl, (bS_us hS (show 0 ≤ 0 ∧ 0 ≤ 100000 by omega)), (wp_us (by decide) hW), (fr_us (by decide) fr_rf), rfl⟩
set_option maxRecDepth 100000 in
set_option maxHeartbeats 4000000 in
theorem g_refuse {g : Nat → Int} {Zi : Nat → Option (Nat × (Nat → Int))} {d n q : Nat} {D : Nat → Nat × Nat} {s : Nat → Int} {p : Nat → Nat} {c : Nat → Nat → Int} (hd : 3 ≤ d) (hz : zk Zi) (hq : q + 6 ≤ 400000) (hD : wd n p) (hS : bS s) (hC : bC D c) (hW : wp q g n D p s) (re : Int) (wh : Int) (b_re : 0 ≤ re ∧ re ≤ 8) (b_wh : -1 ≤ wh ∧ wh ≤ 100000) : tt Zi d 20 (0, [some (.inr (.inl 20)), some (.inl re), some (.inl wh)], [], n, D, s, p, c) (fun R H => (False) ∨ (R = .inr 12 ∧ cX ((q + 1)) g s p c [] LXR H)) := by
  refine tt_k 6 (S' := (10, [some (.inr (.inl 20)), some (.inl re), some (.inl wh)], [], n, D, (us (us s 2005 re) 2006 wh), p, c)) rfl ?_
  have hn1 := wp_n hW (by omega)
  exact tt_thr (q := (12, 497)) rfl rfl (by decide) (by decide) (by omega) (by omega) (Or.inr ⟨rfl, cX_mono (q := q + 1) ⟨(bS_us (bS_us hS (show 0 ≤ re ∧ re ≤ 8 by omega)) (show -1 ≤ wh ∧ wh ≤ 100000 by omega)), bC_x hC (hW).dz (by decide), wp_x (wp_us (by decide) (wp_us (by decide) hW)), fk_x (fk_rf hD), (show fr s (us (us s 2005 re) 2006 wh) LXR from (fr_us (by decide) (fr_us (by decide) fr_rf)))⟩ (by omega)⟩)
set_option maxRecDepth 100000 in
set_option maxHeartbeats 4000000 in
theorem g_openPlace {g : Nat → Int} {Zi : Nat → Option (Nat × (Nat → Int))} {d n q : Nat} {D : Nat → Nat × Nat} {s : Nat → Int} {p : Nat → Nat} {c : Nat → Nat → Int} (hd : 0 ≤ d) (hz : zk Zi) (hq : q + 0 ≤ 400000) (hD : wd n p) (hS : bS s) (hC : bC D c) (hW : wp q g n D p s)  : tt Zi d 22 (0, [some (.inr (.inl 20))], [], n, D, s, p, c) (fun R H => ∃ (r : Int), R = .inl (some (.inl r)) ∧ H = (n, D, s, p, c) ∧ (-1 ≤ r ∧ r ≤ 99999) ∧ (r = s 2001 - 1)) := by
  refine tt_k 4 (S' := (6, [some (.inr (.inl 20))], [.inl ((s 2001) - 1)], n, D, s, p, c)) rfl ?_
  have b1 : 0 ≤ (s 2001) ∧ (s 2001) ≤ 100000 := hS 2001
  exact tt_rti rfl rfl ⟨((s 2001) - 1), rfl, rfl, by omega, by show ((s 2001) - 1) = s 2001 - 1; omega⟩
set_option maxRecDepth 100000 in
set_option maxHeartbeats 4000000 in
theorem g_readByte {g : Nat → Int} {Zi : Nat → Option (Nat × (Nat → Int))} {d n q : Nat} {D : Nat → Nat × Nat} {s : Nat → Int} {p : Nat → Nat} {c : Nat → Nat → Int} (hd : 4 ≤ d) (hz : zk Zi) (hq : q + 8 ≤ 400000) (hD : wd n p) (hS : bS s) (hC : bC D c) (hW : wp q g n D p s)  : tt Zi d 19 (0, [some (.inr (.inl 20)), none], [], n, D, s, p, c) (fun R H => (∃ (s' : Nat → Int) (r : Int), R = .inl (some (.inl r)) ∧ H = (n, D, s', p, c) ∧ bS s' ∧ wp q g n D p s' ∧ fr s s' [2001] ∧ (0 ≤ r ∧ r ≤ 255) ∧ (s' 2001 = s 2001 + 1) ∧ (s' 2001 ≤ s 601)) ∨ (R = .inr 12 ∧ cX ((q + 1)) g s p c [] LXR H)) := by
  have b1 : 0 ≤ (s 601) ∧ (s 601) ≤ 32768 := hS 601
  refine tt_k 5 (S' := (11, [some (.inr (.inl 20)), none], [.inl (s 601), .inl (s 2001)], n, D, s, p, c)) rfl ?_
  have b2 : 0 ≤ (s 2001) ∧ (s 2001) ≤ 100000 := hS 2001
  refine tb_lt (x := (s 2001)) (y := (s 601)) rfl rfl (by omega) (fun h3 => ?_) (fun h3 => ?_)
  · show tt Zi d 19 (26, [some (.inr (.inl 20)), none], [], n, D, s, p, c) _
    refine tt_k 4 (S' := (34, [some (.inr (.inl 20)), none], [.inl (s 2001), .inr (.inl 6)], n, D, s, p, c)) rfl ?_
    have b4 := wp_l6 hW
    have b5 := (hW).c6
    refine tt_cl (by omega) rfl (g_get6 (Zi := Zi) (q := q) (n := n) (D := D) (s := s) (p := p) (c := c) (by omega) hz (by omega) hD hS hC hW (s 2001) (by omega) (show 0 ≤ (s 2001) ∧ (s 2001) < (ln D (p 600) : Int) by omega)) ?_
    rintro _ _ ⟨r6, rfl, rfl, b7⟩
    show tt Zi d 19 (37, [some (.inr (.inl 20)), none], [.inl r6], n, D, s, p, c) _
    refine tt_k 8 (S' := (49, [some (.inr (.inl 20)), some (.inl r6)], [.inl r6], n, D, (us s 2001 ((s 2001) + 1)), p, c)) rfl ?_
    exact tt_rti rfl rfl (Or.inl ⟨(us s 2001 ((s 2001) + 1)), r6, rfl, rfl, (bS_us hS (show 0 ≤ ((s 2001) + 1) ∧ ((s 2001) + 1) ≤ 100000 by omega)), (wp_us (by decide) hW), (fr_us (by decide) fr_rf), by omega, rfl, by show ((s 2001) + 1) ≤ s 601; omega⟩)
  · show tt Zi d 19 (14, [some (.inr (.inl 20)), none], [], n, D, s, p, c) _
    refine tt_k 5 (S' := (23, [some (.inr (.inl 20)), none], [.inl (s 601), .inl 1, .inr (.inl 20)], n, D, s, p, c)) rfl ?_
    refine tt_cl (by omega) rfl (g_refuse (Zi := Zi) (q := q) (n := n) (D := D) (s := s) (p := p) (c := c) (by omega) hz (by omega) hD hS hC hW 1 (s 601) (by omega) (by omega)) ?_
    rintro _ H1 (hF | ⟨rfl, hY8⟩)
    · exact hF.elim
    · exact tt_ax rfl (Or.inr ⟨rfl, cX_mono (cX_trx (fk_rf hD) (show fr s s LXR from fr_rf) hY8 (by decide)) (by omega)⟩)
set_option maxRecDepth 100000 in
set_option maxHeartbeats 4000000 in
theorem g_readTwo {g : Nat → Int} {Zi : Nat → Option (Nat × (Nat → Int))} {d n q : Nat} {D : Nat → Nat × Nat} {s : Nat → Int} {p : Nat → Nat} {c : Nat → Nat → Int} (hd : 5 ≤ d) (hz : zk Zi) (hq : q + 10 ≤ 400000) (hD : wd n p) (hS : bS s) (hC : bC D c) (hW : wp q g n D p s)  : tt Zi d 25 (0, [some (.inr (.inl 20)), none], [], n, D, s, p, c) (fun R H => (∃ (s' : Nat → Int) (r : Int), R = .inl (some (.inl r)) ∧ H = (n, D, s', p, c) ∧ bS s' ∧ wp q g n D p s' ∧ fr s s' [2001] ∧ (0 ≤ r ∧ r ≤ 65535) ∧ (s' 2001 = s 2001 + 2) ∧ (s' 2001 ≤ s 601)) ∨ (R = .inr 12 ∧ cX ((q + 1)) g s p c [] LXR H)) := by
  refine tt_k 1 (S' := (1, [some (.inr (.inl 20)), none], [.inr (.inl 20)], n, D, s, p, c)) rfl ?_
  refine tt_cl (by omega) rfl (g_readByte (Zi := Zi) (q := q) (n := n) (D := D) (s := s) (p := p) (c := c) (by omega) hz (by omega) hD hS hC hW ) ?_
  rintro _ H1 (⟨s1, r2, rfl, rfl, hS1, hW3, f4, b5, k6, k7⟩ | ⟨rfl, hY8⟩)
  rotate_left
  · exact tt_ax rfl (Or.inr ⟨rfl, cX_mono (cX_trx (fk_rf hD) (show fr s s LXR from fr_rf) hY8 (by decide)) (by omega)⟩)
  show tt Zi d 25 (4, [some (.inr (.inl 20)), none], [.inl r2], n, D, s1, p, c) _
  replace k6 : (s1 2001) = (s 2001) + 1 := k6
  replace k7 : (s1 2001) ≤ (s 601) := k7
  have b9 : 0 ≤ (s 2001) ∧ (s 2001) ≤ 100000 := hS 2001
  have b10 : 0 ≤ (s1 2001) ∧ (s1 2001) ≤ 100000 := hS1 2001
  have b11 : 0 ≤ (s 601) ∧ (s 601) ≤ 32768 := hS 601
  have e12 : s1 601 = (s 601) := (f4 601 (by decide))
  have b13 : 0 ≤ (s1 601) ∧ (s1 601) ≤ 32768 := hS1 601
  refine tt_k 5 (S' := (11, [some (.inr (.inl 20)), some (.inl r2)], [.inr (.inl 20), .inl (256 * r2)], n, D, s1, p, c)) rfl ?_
  refine tt_cl (by omega) rfl (g_readByte (Zi := Zi) (q := q) (n := n) (D := D) (s := s1) (p := p) (c := c) (by omega) hz (by omega) hD hS1 hC hW3 ) ?_
  rintro _ H1 (⟨s14, r15, rfl, rfl, hS14, hW16, f17, b18, k19, k20⟩ | ⟨rfl, hY21⟩)
  rotate_left
  · exact tt_ax rfl (Or.inr ⟨rfl, cX_mono (cX_trx (fk_rf hD) (show fr s s1 LXR from (fr_tr fr_rf f4 (by decide))) hY21 (by decide)) (by omega)⟩)
  show tt Zi d 25 (14, [some (.inr (.inl 20)), some (.inl r2)], [.inl r15, .inl (256 * r2)], n, D, s14, p, c) _
  replace k19 : (s14 2001) = (s1 2001) + 1 := k19
  replace k20 : (s14 2001) ≤ (s1 601) := k20
  have b22 : 0 ≤ (s14 2001) ∧ (s14 2001) ≤ 100000 := hS14 2001
  have e23 : s14 601 = (s1 601) := (f17 601 (by decide))
  have b24 : 0 ≤ (s14 601) ∧ (s14 601) ≤ 32768 := hS14 601
  refine tt_k 1 (S' := (15, [some (.inr (.inl 20)), some (.inl r2)], [.inl ((256 * r2) + r15)], n, D, s14, p, c)) rfl ?_
  exact tt_rti rfl rfl (Or.inl ⟨s14, ((256 * r2) + r15), rfl, rfl, hS14, hW16, (fr_tr (fr_tr fr_rf f4 (by decide)) f17 (by decide)), by omega, by show (s14 2001) = s 2001 + 2; omega, by show (s14 2001) ≤ s 601; omega⟩)
set_option maxRecDepth 100000 in
set_option maxHeartbeats 4000000 in
theorem g_expect {g : Nat → Int} {Zi : Nat → Option (Nat × (Nat → Int))} {d n q : Nat} {D : Nat → Nat × Nat} {s : Nat → Int} {p : Nat → Nat} {c : Nat → Nat → Int} (hd : 5 ≤ d) (hz : zk Zi) (hq : q + 10 ≤ 400000) (hD : wd n p) (hS : bS s) (hC : bC D c) (hW : wp q g n D p s) (v : Int) (b_v : -2147483648 ≤ v ∧ v ≤ 2147483647) : tt Zi d 27 (0, [some (.inr (.inl 20)), some (.inl v)], [], n, D, s, p, c) (fun R H => (∃ (s' : Nat → Int), R = .inl none ∧ H = (n, D, s', p, c) ∧ bS s' ∧ wp q g n D p s' ∧ fr s s' [2001] ∧ (s' 2001 = s 2001 + 1) ∧ (s' 2001 ≤ s 601)) ∨ (R = .inr 12 ∧ cX ((q + 1)) g s p c [] LXR H)) := by
  refine tt_k 1 (S' := (1, [some (.inr (.inl 20)), some (.inl v)], [.inr (.inl 20)], n, D, s, p, c)) rfl ?_
  refine tt_cl (by omega) rfl (g_readByte (Zi := Zi) (q := q) (n := n) (D := D) (s := s) (p := p) (c := c) (by omega) hz (by omega) hD hS hC hW ) ?_
  rintro _ H1 (⟨s1, r2, rfl, rfl, hS1, hW3, f4, b5, k6, k7⟩ | ⟨rfl, hY8⟩)
  rotate_left
  · exact tt_ax rfl (Or.inr ⟨rfl, cX_mono (cX_trx (fk_rf hD) (show fr s s LXR from fr_rf) hY8 (by decide)) (by omega)⟩)
  show tt Zi d 27 (4, [some (.inr (.inl 20)), some (.inl v)], [.inl r2], n, D, s1, p, c) _
  replace k6 : (s1 2001) = (s 2001) + 1 := k6
  replace k7 : (s1 2001) ≤ (s 601) := k7
  have b9 : 0 ≤ (s 2001) ∧ (s 2001) ≤ 100000 := hS 2001
  have b10 : 0 ≤ (s1 2001) ∧ (s1 2001) ≤ 100000 := hS1 2001
  have b11 : 0 ≤ (s 601) ∧ (s 601) ≤ 32768 := hS 601
  have e12 : s1 601 = (s 601) := (f4 601 (by decide))
  have b13 : 0 ≤ (s1 601) ∧ (s1 601) ≤ 32768 := hS1 601
  refine tt_k 1 (S' := (5, [some (.inr (.inl 20)), some (.inl v)], [.inl v, .inl r2], n, D, s1, p, c)) rfl ?_
  refine tb_eq (x := r2) (y := v) rfl rfl (by omega) (fun h14 => ?_) (fun h14 => ?_)
  · show tt Zi d 27 (17, [some (.inr (.inl 20)), some (.inl v)], [], n, D, s1, p, c) _
    exact tt_rtv rfl rfl (Or.inl ⟨s1, rfl, rfl, hS1, hW3, (fr_tr fr_rf f4 (by decide)), by show (s1 2001) = s 2001 + 1; omega, by show (s1 2001) ≤ s 601; omega⟩)
  · show tt Zi d 27 (8, [some (.inr (.inl 20)), some (.inl v)], [], n, D, s1, p, c) _
    refine tt_k 3 (S' := (11, [some (.inr (.inl 20)), some (.inl v)], [.inr (.inl 20), .inl 5, .inr (.inl 20)], n, D, s1, p, c)) rfl ?_
    refine tt_cl (by omega) rfl (g_openPlace (Zi := Zi) (q := q) (n := n) (D := D) (s := s1) (p := p) (c := c) (by omega) hz (by omega) hD hS1 hC hW3 ) ?_
    rintro _ _ ⟨r15, rfl, rfl, b16, k17⟩
    show tt Zi d 27 (14, [some (.inr (.inl 20)), some (.inl v)], [.inl r15, .inl 5, .inr (.inl 20)], n, D, s1, p, c) _
    replace k17 : r15 = (s1 2001) - 1 := k17
    refine tt_cl (by omega) rfl (g_refuse (Zi := Zi) (q := q) (n := n) (D := D) (s := s1) (p := p) (c := c) (by omega) hz (by omega) hD hS1 hC hW3 5 r15 (by omega) (by omega)) ?_
    rintro _ H1 (hF | ⟨rfl, hY18⟩)
    · exact hF.elim
    · exact tt_ax rfl (Or.inr ⟨rfl, cX_mono (cX_trx (fk_rf hD) (show fr s s1 LXR from (fr_tr fr_rf f4 (by decide))) hY18 (by decide)) (by omega)⟩)
set_option maxRecDepth 100000 in
set_option maxHeartbeats 4000000 in
theorem g_readMark_L36 {g : Nat → Int} {Zi : Nat → Option (Nat × (Nat → Int))} {d n q : Nat} {D : Nat → Nat × Nat} {s : Nat → Int} {p : Nat → Nat} {c : Nat → Nat → Int}  {Q : mi_Rs → mi_H → Prop} (hd : 5 ≤ d) (hz : zk Zi) (hq : q + 10 ≤ 400001) (hD : wd n p) (hS : bS s) (hC : bC D c) (hW : wp q g n D p s) (hX12 : ∀ H, cX (q + 1) g s p c [] LXR H → Q (.inr 12) H)
  (hK : ∀ (mk : Int) (i : Int) (s0 : Nat → Int) (b_mk : 0 ≤ mk ∧ mk ≤ 255) (b_i : -1 ≤ i ∧ i ≤ 32768) (hS0 : bS s0) (hF0 : fr s s0 [2001]) (hW0 : wp q g n D p s0) (i0 : s0 2001 ≤ s 601 ∧ 1 ≤ s0 2001), (True) → tt Zi d 18 (58, [some (.inr (.inl 20)), some (.inl mk), some (.inl i)], [], n, D, s0, p, c) Q) :
  ∀ (m : Nat) (mk : Int) (i : Int) (s0 : Nat → Int) (b_mk : 0 ≤ mk ∧ mk ≤ 255) (b_i : -1 ≤ i ∧ i ≤ 32768) (hS0 : bS s0) (hF0 : fr s s0 [2001]) (hW0 : wp q g n D p s0) (i0 : s0 2001 ≤ s 601 ∧ 1 ≤ s0 2001), (i + 1).toNat < m → tt Zi d 18 (36, [some (.inr (.inl 20)), some (.inl mk), some (.inl i)], [], n, D, s0, p, c) Q := by
  intro m
  induction m with
  | zero => intro mk i s0 b_mk b_i hS0 hF0 hW0 i0 hm; exact absurd hm (by omega)
  | succ m ih =>
    intro mk i s0 b_mk b_i hS0 hF0 hW0 i0 hm
    have e1 : s0 601 = s 601 := hF0 601 (by decide)
    have b2 : 0 ≤ (s0 601) ∧ (s0 601) ≤ 32768 := hS0 601
    have b3 : 0 ≤ (s 601) ∧ (s 601) ≤ 32768 := hS 601
    refine tt_k 1 (S' := (37, [some (.inr (.inl 20)), some (.inl mk), some (.inl i)], [.inl i], n, D, s0, p, c)) rfl ?_
    refine tz_lt (x := i) rfl rfl (by omega) (fun h4 => ?_) (fun h4 => ?_)
    · show tt Zi d 18 (58, [some (.inr (.inl 20)), some (.inl mk), some (.inl i)], [], n, D, s0, p, c) _
      exact hK mk i s0 (by omega) (by omega) hS0 hF0 hW0 (show (s0 2001) ≤ s 601 ∧ 1 ≤ (s0 2001) by omega) trivial
    · show tt Zi d 18 (40, [some (.inr (.inl 20)), some (.inl mk), some (.inl i)], [], n, D, s0, p, c) _
      refine tt_k 2 (S' := (44, [some (.inr (.inl 20)), some (.inl mk), some (.inl i)], [.inl 255, .inl mk], n, D, s0, p, c)) rfl ?_
      refine tb_ne (x := mk) (y := 255) rfl rfl (by omega) (fun h5 => ?_) (fun h5 => ?_)
      · show tt Zi d 18 (58, [some (.inr (.inl 20)), some (.inl mk), some (.inl i)], [], n, D, s0, p, c) _
        exact hK mk i s0 (by omega) (by omega) hS0 hF0 hW0 (show (s0 2001) ≤ s 601 ∧ 1 ≤ (s0 2001) by omega) trivial
      · show tt Zi d 18 (47, [some (.inr (.inl 20)), some (.inl mk), some (.inl i)], [], n, D, s0, p, c) _
        refine tt_k 1 (S' := (48, [some (.inr (.inl 20)), some (.inl mk), some (.inl i)], [.inr (.inl 20)], n, D, s0, p, c)) rfl ?_
        refine tt_cl (by omega) rfl (g_readByte (Zi := Zi) (q := q) (n := n) (D := D) (s := s0) (p := p) (c := c) (by omega) hz (by omega) hD hS0 hC hW0 ) ?_
        rintro _ H1 (⟨s6, r7, rfl, rfl, hS6, hW8, f9, b10, k11, k12⟩ | ⟨rfl, hY13⟩)
        rotate_left
        · exact tt_ax rfl (hX12 _ (cX_mono (cX_trx (fk_rf hD) (fr_wk (show fr s s0 [2001] from hF0) (by decide)) hY13 (by decide)) (by omega)))
        show tt Zi d 18 (51, [some (.inr (.inl 20)), some (.inl mk), some (.inl i)], [.inl r7], n, D, s6, p, c) _
        replace k11 : (s6 2001) = (s0 2001) + 1 := k11
        replace k12 : (s6 2001) ≤ (s0 601) := k12
        have b14 : 0 ≤ (s0 2001) ∧ (s0 2001) ≤ 100000 := hS0 2001
        have b15 : 0 ≤ (s6 2001) ∧ (s6 2001) ≤ 100000 := hS6 2001
        have e16 : s6 601 = (s0 601) := (f9 601 (by decide))
        have b17 : 0 ≤ (s6 601) ∧ (s6 601) ≤ 32768 := hS6 601
        refine tt_k 3 (S' := (36, [some (.inr (.inl 20)), some (.inl r7), some (.inl (i + (-1)))], [], n, D, s6, p, c)) rfl ?_
        exact ih r7 (i + (-1)) s6 (by omega) (by omega) hS6 (fr_tr hF0 f9 (by decide)) hW8 (show (s6 2001) ≤ s 601 ∧ 1 ≤ (s6 2001) by omega) (show ((i + (-1)) + 1).toNat < m by omega)
set_option maxRecDepth 100000 in
set_option maxHeartbeats 4000000 in
theorem g_readMark {g : Nat → Int} {Zi : Nat → Option (Nat × (Nat → Int))} {d n q : Nat} {D : Nat → Nat × Nat} {s : Nat → Int} {p : Nat → Nat} {c : Nat → Nat → Int} (hd : 5 ≤ d) (hz : zk Zi) (hq : q + 10 ≤ 400000) (hD : wd n p) (hS : bS s) (hC : bC D c) (hW : wp q g n D p s)  : tt Zi d 18 (0, [some (.inr (.inl 20)), none, none], [], n, D, s, p, c) (fun R H => (∃ (s' : Nat → Int) (r : Int), R = .inl (some (.inl r)) ∧ H = (n, D, s', p, c) ∧ bS s' ∧ wp q g n D p s' ∧ fr s s' [2001] ∧ (0 ≤ r ∧ r ≤ 255) ∧ (s' 2001 ≤ s 601) ∧ (1 ≤ s' 2001)) ∨ (R = .inr 12 ∧ cX ((q + 1)) g s p c [] LXR H)) := by
  refine tt_k 1 (S' := (1, [some (.inr (.inl 20)), none, none], [.inr (.inl 20)], n, D, s, p, c)) rfl ?_
  refine tt_cl (by omega) rfl (g_readByte (Zi := Zi) (q := q) (n := n) (D := D) (s := s) (p := p) (c := c) (by omega) hz (by omega) hD hS hC hW ) ?_
  rintro _ H1 (⟨s1, r2, rfl, rfl, hS1, hW3, f4, b5, k6, k7⟩ | ⟨rfl, hY8⟩)
  rotate_left
  · exact tt_ax rfl (Or.inr ⟨rfl, cX_mono (cX_trx (fk_rf hD) (show fr s s LXR from fr_rf) hY8 (by decide)) (by omega)⟩)
  show tt Zi d 18 (4, [some (.inr (.inl 20)), none, none], [.inl r2], n, D, s1, p, c) _
  replace k6 : (s1 2001) = (s 2001) + 1 := k6
  replace k7 : (s1 2001) ≤ (s 601) := k7
  have b9 : 0 ≤ (s 2001) ∧ (s 2001) ≤ 100000 := hS 2001
  have b10 : 0 ≤ (s1 2001) ∧ (s1 2001) ≤ 100000 := hS1 2001
  have b11 : 0 ≤ (s 601) ∧ (s 601) ≤ 32768 := hS 601
  have e12 : s1 601 = (s 601) := (f4 601 (by decide))
  have b13 : 0 ≤ (s1 601) ∧ (s1 601) ≤ 32768 := hS1 601
  refine tt_k 1 (S' := (7, [some (.inr (.inl 20)), none, none], [.inl 255, .inl r2], n, D, s1, p, c)) rfl ?_
  refine tb_eq (x := r2) (y := 255) rfl rfl (by omega) (fun h14 => ?_) (fun h14 => ?_)
  · show tt Zi d 18 (19, [some (.inr (.inl 20)), none, none], [], n, D, s1, p, c) _
    refine tt_k 9 (S' := (36, [some (.inr (.inl 20)), some (.inl 255), some (.inl ((s1 601) - (s1 2001)))], [], n, D, s1, p, c)) rfl ?_
    refine g_readMark_L36 (Zi := Zi) (q := q) (n := n) (D := D) (s := s1) (p := p) (c := c) hd hz (by omega) hD hS1 hC hW3     (fun H h => (Or.inr ⟨rfl, cX_mono (cX_trx (fk_rf hD) (show fr s s1 LXR from (fr_tr fr_rf f4 (by decide))) h (by decide)) (by omega)⟩)) ?_ _ 255 ((s1 601) - (s1 2001)) s1 (by omega) (by omega) hS1 fr_rf hW3 (show (s1 2001) ≤ (s1 601) ∧ 1 ≤ (s1 2001) by omega) (Nat.lt_succ_self _)
    intro x15 x16 s17 b18 b19 hS17 f20 hW21 i22 hx23
    show tt Zi d 18 (58, [some (.inr (.inl 20)), some (.inl x15), some (.inl x16)], [], n, D, s17, p, c) _
    replace i22 : (s17 2001) ≤ (s1 601) ∧ 1 ≤ (s17 2001) := i22
    have b24 : 0 ≤ (s17 2001) ∧ (s17 2001) ≤ 100000 := hS17 2001
    have e25 : s17 601 = (s1 601) := (f20 601 (by decide))
    have b26 : 0 ≤ (s17 601) ∧ (s17 601) ≤ 32768 := hS17 601
    refine tt_k 1 (S' := (59, [some (.inr (.inl 20)), some (.inl x15), some (.inl x16)], [.inl x15], n, D, s17, p, c)) rfl ?_
    exact tt_rti rfl rfl (Or.inl ⟨s17, x15, rfl, rfl, hS17, hW21, (fr_tr (fr_tr fr_rf f4 (by decide)) f20 (by decide)), by omega, by show (s17 2001) ≤ s 601; omega, by show 1 ≤ (s17 2001); omega⟩)
  · show tt Zi d 18 (10, [some (.inr (.inl 20)), none, none], [], n, D, s1, p, c) _
    refine tt_k 3 (S' := (13, [some (.inr (.inl 20)), none, none], [.inr (.inl 20), .inl 2, .inr (.inl 20)], n, D, s1, p, c)) rfl ?_
    refine tt_cl (by omega) rfl (g_openPlace (Zi := Zi) (q := q) (n := n) (D := D) (s := s1) (p := p) (c := c) (by omega) hz (by omega) hD hS1 hC hW3 ) ?_
    rintro _ _ ⟨r27, rfl, rfl, b28, k29⟩
    show tt Zi d 18 (16, [some (.inr (.inl 20)), none, none], [.inl r27, .inl 2, .inr (.inl 20)], n, D, s1, p, c) _
    replace k29 : r27 = (s1 2001) - 1 := k29
    refine tt_cl (by omega) rfl (g_refuse (Zi := Zi) (q := q) (n := n) (D := D) (s := s1) (p := p) (c := c) (by omega) hz (by omega) hD hS1 hC hW3 2 r27 (by omega) (by omega)) ?_
    rintro _ H1 (hF | ⟨rfl, hY30⟩)
    · exact hF.elim
    · exact tt_ax rfl (Or.inr ⟨rfl, cX_mono (cX_trx (fk_rf hD) (show fr s s1 LXR from (fr_tr fr_rf f4 (by decide))) hY30 (by decide)) (by omega)⟩)
set_option maxRecDepth 100000 in
set_option maxHeartbeats 4000000 in
theorem g_skip {g : Nat → Int} {Zi : Nat → Option (Nat × (Nat → Int))} {d n q : Nat} {D : Nat → Nat × Nat} {s : Nat → Int} {p : Nat → Nat} {c : Nat → Nat → Int} (hd : 0 ≤ d) (hz : zk Zi) (hq : q + 0 ≤ 400000) (hD : wd n p) (hS : bS s) (hC : bC D c) (hW : wp q g n D p s) (v : Int) (b_v : 0 ≤ v ∧ v ≤ 65533) (hp0 : s 2001 ≤ 32768) : tt Zi d 89 (0, [some (.inr (.inl 20)), some (.inl v)], [], n, D, s, p, c) (fun R H => ∃ (s' : Nat → Int), R = .inl none ∧ H = (n, D, s', p, c) ∧ bS s' ∧ wp q g n D p s' ∧ fr s s' [2001]) := by
  refine tt_k 6 (S' := (10, [some (.inr (.inl 20)), some (.inl v)], [], n, D, (us s 2001 ((s 2001) + v)), p, c)) rfl ?_
  have b1 : 0 ≤ (s 2001) ∧ (s 2001) ≤ 100000 := hS 2001
  exact tt_rtv rfl rfl ⟨(us s 2001 ((s 2001) + v)), rfl, rfl, (bS_us hS (show 0 ≤ ((s 2001) + v) ∧ ((s 2001) + v) ≤ 100000 by omega)), (wp_us (by decide) hW), (fr_us (by decide) fr_rf)⟩
set_option maxRecDepth 100000 in
set_option maxHeartbeats 4000000 in
theorem g_checkAll {g : Nat → Int} {Zi : Nat → Option (Nat × (Nat → Int))} {d n q : Nat} {D : Nat → Nat × Nat} {s : Nat → Int} {p : Nat → Nat} {c : Nat → Nat → Int} (hd : 4 ≤ d) (hz : zk Zi) (hq : q + 8 ≤ 400000) (hD : wd n p) (hS : bS s) (hC : bC D c) (hW : wp q g n D p s)  : tt Zi d 90 (0, [some (.inr (.inl 20))], [], n, D, s, p, c) (fun R H => (R = .inl none ∧ H = (n, D, s, p, c)) ∨ (R = .inr 12 ∧ cX ((q + 1)) g s p c [] LXR H)) := by
  refine tt_k 5 (S' := (11, [some (.inr (.inl 20))], [.inl (s 601), .inl (s 2001)], n, D, s, p, c)) rfl ?_
  have b1 : 0 ≤ (s 2001) ∧ (s 2001) ≤ 100000 := hS 2001
  have b2 : 0 ≤ (s 601) ∧ (s 601) ≤ 32768 := hS 601
  refine tb_ge (x := (s 2001)) (y := (s 601)) rfl rfl (by omega) (fun h3 => ?_) (fun h3 => ?_)
  · show tt Zi d 90 (24, [some (.inr (.inl 20))], [], n, D, s, p, c) _
    exact tt_rtv rfl rfl (Or.inl ⟨rfl, rfl⟩)
  · show tt Zi d 90 (14, [some (.inr (.inl 20))], [], n, D, s, p, c) _
    refine tt_k 4 (S' := (21, [some (.inr (.inl 20))], [.inl (s 2001), .inl 8, .inr (.inl 20)], n, D, s, p, c)) rfl ?_
    refine tt_cl (by omega) rfl (g_refuse (Zi := Zi) (q := q) (n := n) (D := D) (s := s) (p := p) (c := c) (by omega) hz (by omega) hD hS hC hW 8 (s 2001) (by omega) (by omega)) ?_
    rintro _ H1 (hF | ⟨rfl, hY4⟩)
    · exact hF.elim
    · exact tt_ax rfl (Or.inr ⟨rfl, cX_mono (cX_trx (fk_rf hD) (show fr s s LXR from fr_rf) hY4 (by decide)) (by omega)⟩)
set_option maxRecDepth 100000 in
set_option maxHeartbeats 4000000 in
theorem g_beginData {g : Nat → Int} {Zi : Nat → Option (Nat × (Nat → Int))} {d n q : Nat} {D : Nat → Nat × Nat} {s : Nat → Int} {p : Nat → Nat} {c : Nat → Nat → Int} (hd : 0 ≤ d) (hz : zk Zi) (hq : q + 0 ≤ 400000) (hD : wd n p) (hS : bS s) (hC : bC D c) (hW : wp q g n D p s)  : tt Zi d 31 (0, [some (.inr (.inl 20))], [], n, D, s, p, c) (fun R H => ∃ (s' : Nat → Int), R = .inl none ∧ H = (n, D, s', p, c) ∧ bS s' ∧ wp q g n D p s' ∧ fr s s' [2002, 2003]) := by
  refine tt_k 6 (S' := (10, [some (.inr (.inl 20))], [], n, D, (us (us s 2002 0) 2003 0), p, c)) rfl ?_
  exact tt_rtv rfl rfl ⟨(us (us s 2002 0) 2003 0), rfl, rfl, (bS_us (bS_us hS (show 0 ≤ 0 ∧ 0 ≤ 255 by omega)) (show 0 ≤ 0 ∧ 0 ≤ 8 by omega)), (wp_us (by decide) (wp_us (by decide) hW)), (fr_us (by decide) (fr_us (by decide) fr_rf))⟩
set_option maxRecDepth 100000 in
set_option maxHeartbeats 4000000 in
theorem g_endData {g : Nat → Int} {Zi : Nat → Option (Nat × (Nat → Int))} {d n q : Nat} {D : Nat → Nat × Nat} {s : Nat → Int} {p : Nat → Nat} {c : Nat → Nat → Int} (hd : 0 ≤ d) (hz : zk Zi) (hq : q + 0 ≤ 400000) (hD : wd n p) (hS : bS s) (hC : bC D c) (hW : wp q g n D p s) (hp0 : s 2001 ≤ 32768) : tt Zi d 78 (0, [some (.inr (.inl 20))], [], n, D, s, p, c) (fun R H => ∃ (s' : Nat → Int), R = .inl none ∧ H = (n, D, s', p, c) ∧ bS s' ∧ wp q g n D p s' ∧ fr s s' [2001]) := by
  refine tt_k 3 (S' := (7, [some (.inr (.inl 20))], [.inl 255, .inl (s 2002)], n, D, s, p, c)) rfl ?_
  have b1 : 0 ≤ (s 2002) ∧ (s 2002) ≤ 255 := hS 2002
  refine tb_ne (x := (s 2002)) (y := 255) rfl rfl (by omega) (fun h2 => ?_) (fun h2 => ?_)
  · show tt Zi d 78 (20, [some (.inr (.inl 20))], [], n, D, s, p, c) _
    exact tt_rtv rfl rfl ⟨s, rfl, rfl, hS, hW, fr_rf⟩
  · show tt Zi d 78 (10, [some (.inr (.inl 20))], [], n, D, s, p, c) _
    refine tt_k 6 (S' := (20, [some (.inr (.inl 20))], [], n, D, (us s 2001 ((s 2001) + 1)), p, c)) rfl ?_
    have b3 : 0 ≤ (s 2001) ∧ (s 2001) ≤ 100000 := hS 2001
    exact tt_rtv rfl rfl ⟨(us s 2001 ((s 2001) + 1)), rfl, rfl, (bS_us hS (show 0 ≤ ((s 2001) + 1) ∧ ((s 2001) + 1) ≤ 100000 by omega)), (wp_us (by decide) hW), (fr_us (by decide) fr_rf)⟩
set_option maxRecDepth 100000 in
set_option maxHeartbeats 4000000 in
theorem g_openByte {g : Nat → Int} {Zi : Nat → Option (Nat × (Nat → Int))} {d n q : Nat} {D : Nat → Nat × Nat} {s : Nat → Int} {p : Nat → Nat} {c : Nat → Nat → Int} (hd : 4 ≤ d) (hz : zk Zi) (hq : q + 8 ≤ 400000) (hD : wd n p) (hS : bS s) (hC : bC D c) (hW : wp q g n D p s)  : tt Zi d 58 (0, [some (.inr (.inl 20)), none, none, none], [], n, D, s, p, c) (fun R H => (∃ (s' : Nat → Int), R = .inl none ∧ H = (n, D, s', p, c) ∧ bS s' ∧ wp q g n D p s' ∧ fr s s' [2001, 2002, 2003] ∧ (1 ≤ s' 2003) ∧ (s 2001 ≤ 32768 → s' 2001 ≤ 32768)) ∨ (R = .inr 12 ∧ cX ((q + 1)) g s p c [] LXR H)) := by
  have b1 : 0 ≤ (s 601) ∧ (s 601) ≤ 32768 := hS 601
  refine tt_k 5 (S' := (11, [some (.inr (.inl 20)), none, none, none], [.inl (s 601), .inl (s 2001)], n, D, s, p, c)) rfl ?_
  have b2 : 0 ≤ (s 2001) ∧ (s 2001) ≤ 100000 := hS 2001
  refine tb_lt (x := (s 2001)) (y := (s 601)) rfl rfl (by omega) (fun h3 => ?_) (fun h3 => ?_)
  · show tt Zi d 58 (18, [some (.inr (.inl 20)), none, none, none], [], n, D, s, p, c) _
    refine tt_k 3 (S' := (21, [some (.inr (.inl 20)), some (.inl 0), none, none], [.inl 0], n, D, s, p, c)) rfl ?_
    refine tz_ne (x := 0) rfl rfl (by omega) (fun h4 => ?_) (fun h4 => ?_)
    · exfalso; omega
    · show tt Zi d 58 (24, [some (.inr (.inl 20)), some (.inl 0), none, none], [], n, D, s, p, c) _
      refine tt_k 4 (S' := (32, [some (.inr (.inl 20)), some (.inl 0), none, none], [.inl (s 2001), .inr (.inl 6)], n, D, s, p, c)) rfl ?_
      have b5 := wp_l6 hW
      have b6 := (hW).c6
      refine tt_cl (by omega) rfl (g_get6 (Zi := Zi) (q := q) (n := n) (D := D) (s := s) (p := p) (c := c) (by omega) hz (by omega) hD hS hC hW (s 2001) (by omega) (show 0 ≤ (s 2001) ∧ (s 2001) < (ln D (p 600) : Int) by omega)) ?_
      rintro _ _ ⟨r7, rfl, rfl, b8⟩
      show tt Zi d 58 (35, [some (.inr (.inl 20)), some (.inl 0), none, none], [.inl r7], n, D, s, p, c) _
      refine tt_k 1 (S' := (38, [some (.inr (.inl 20)), some (.inl 0), none, none], [.inl 255, .inl r7], n, D, s, p, c)) rfl ?_
      refine tb_ne (x := r7) (y := 255) rfl rfl (by omega) (fun h9 => ?_) (fun h9 => ?_)
      · show tt Zi d 58 (45, [some (.inr (.inl 20)), some (.inl 0), none, none], [], n, D, s, p, c) _
        refine tt_k 3 (S' := (48, [some (.inr (.inl 20)), some (.inl 0), some (.inl 0), none], [.inl 0], n, D, s, p, c)) rfl ?_
        refine tz_ne (x := 0) rfl rfl (by omega) (fun h10 => ?_) (fun h10 => ?_)
        · exfalso; omega
        · show tt Zi d 58 (51, [some (.inr (.inl 20)), some (.inl 0), some (.inl 0), none], [], n, D, s, p, c) _
          refine tt_k 1 (S' := (52, [some (.inr (.inl 20)), some (.inl 0), some (.inl 0), none], [.inl 0], n, D, s, p, c)) rfl ?_
          refine tz_eq (x := 0) rfl rfl (by omega) (fun h11 => ?_) (fun h11 => ?_)
          · show tt Zi d 58 (75, [some (.inr (.inl 20)), some (.inl 0), some (.inl 0), none], [], n, D, s, p, c) _
            refine tt_k 3 (S' := (78, [some (.inr (.inl 20)), some (.inl 0), some (.inl 0), some (.inl 0)], [.inl 0], n, D, s, p, c)) rfl ?_
            refine tz_ne (x := 0) rfl rfl (by omega) (fun h12 => ?_) (fun h12 => ?_)
            · exfalso; omega
            · show tt Zi d 58 (81, [some (.inr (.inl 20)), some (.inl 0), some (.inl 0), some (.inl 0)], [], n, D, s, p, c) _
              refine tt_k 1 (S' := (82, [some (.inr (.inl 20)), some (.inl 0), some (.inl 0), some (.inl 0)], [.inl 0], n, D, s, p, c)) rfl ?_
              refine tz_eq (x := 0) rfl rfl (by omega) (fun h13 => ?_) (fun h13 => ?_)
              · show tt Zi d 58 (148, [some (.inr (.inl 20)), some (.inl 0), some (.inl 0), some (.inl 0)], [], n, D, s, p, c) _
                refine tt_k 4 (S' := (156, [some (.inr (.inl 20)), some (.inl 0), some (.inl 0), some (.inl 0)], [.inl 255, .inl (s 2002), .inr (.inl 20)], n, D, s, p, c)) rfl ?_
                have b14 : 0 ≤ (s 2002) ∧ (s 2002) ≤ 255 := hS 2002
                have K16 : ∀ (j15 : Int) , (7 ≤ j15 ∧ j15 ≤ 8) → (((s 2002) ≠ 255 ∧ j15 = 8) ∨ ((s 2002) = 255 ∧ j15 = 7)) → tt Zi d 58 (166, [some (.inr (.inl 20)), some (.inl 0), some (.inl 0), some (.inl 0)], [.inl j15, .inr (.inl 20)], n, D, s, p, c) (fun R H => (∃ (s' : Nat → Int), R = .inl none ∧ H = (n, D, s', p, c) ∧ bS s' ∧ wp q g n D p s' ∧ fr s s' [2001, 2002, 2003] ∧ (1 ≤ s' 2003) ∧ (s 2001 ≤ 32768 → s' 2001 ≤ 32768)) ∨ (R = .inr 12 ∧ cX ((q + 1)) g s p c [] LXR H)) := by
                  intro j15 b18 hj17
                  refine tt_k 6 (S' := (178, [some (.inr (.inl 20)), some (.inl 0), some (.inl 0), some (.inl 0)], [.inl (s 2001), .inr (.inl 6), .inr (.inl 20)], n, D, (us s 2003 j15), p, c)) rfl ?_
                  have b19 := (hW).c6
                  refine tt_cl (by omega) rfl (g_get6 (Zi := Zi) (q := q) (n := n) (D := D) (s := (us s 2003 j15)) (p := p) (c := c) (by omega) hz (by omega) hD (bS_us hS (show 0 ≤ j15 ∧ j15 ≤ 8 by omega)) hC (wp_us (by decide) hW) (s 2001) (by omega) (show 0 ≤ (s 2001) ∧ (s 2001) < (ln D (p 600) : Int) by omega)) ?_
                  rintro _ _ ⟨r20, rfl, rfl, b21⟩
                  show tt Zi d 58 (181, [some (.inr (.inl 20)), some (.inl 0), some (.inl 0), some (.inl 0)], [.inl r20, .inr (.inl 20)], n, D, (us s 2003 j15), p, c) _
                  refine tt_k 7 (S' := (194, [some (.inr (.inl 20)), some (.inl 0), some (.inl 0), some (.inl 0)], [], n, D, (us (us (us s 2003 j15) 2002 r20) 2001 ((s 2001) + 1)), p, c)) rfl ?_
                  exact tt_rtv rfl rfl (Or.inl ⟨(us (us (us s 2003 j15) 2002 r20) 2001 ((s 2001) + 1)), rfl, rfl, (bS_us (bS_us (bS_us hS (show 0 ≤ j15 ∧ j15 ≤ 8 by omega)) (show 0 ≤ r20 ∧ r20 ≤ 255 by omega)) (show 0 ≤ ((s 2001) + 1) ∧ ((s 2001) + 1) ≤ 100000 by omega)), (wp_us (by decide) (wp_us (by decide) (wp_us (by decide) hW))), (fr_us (by decide) (fr_us (by decide) (fr_us (by decide) fr_rf))), by show 1 ≤ j15; omega, by show s 2001 ≤ 32768 → ((s 2001) + 1) ≤ 32768; omega⟩)
                refine tb_ne (x := (s 2002)) (y := 255) rfl rfl (by omega) (fun h22 => ?_) (fun h22 => ?_)
                · show tt Zi d 58 (164, [some (.inr (.inl 20)), some (.inl 0), some (.inl 0), some (.inl 0)], [.inr (.inl 20)], n, D, s, p, c) _
                  refine tt_k 1 (S' := (166, [some (.inr (.inl 20)), some (.inl 0), some (.inl 0), some (.inl 0)], [.inl 8, .inr (.inl 20)], n, D, s, p, c)) rfl ?_
                  exact K16 8  (by omega) (Or.inl ⟨h22, rfl⟩)
                · show tt Zi d 58 (159, [some (.inr (.inl 20)), some (.inl 0), some (.inl 0), some (.inl 0)], [.inr (.inl 20)], n, D, s, p, c) _
                  refine tt_k 2 (S' := (166, [some (.inr (.inl 20)), some (.inl 0), some (.inl 0), some (.inl 0)], [.inl 7, .inr (.inl 20)], n, D, s, p, c)) rfl ?_
                  exact K16 7  (by omega) (Or.inr (⟨h22, rfl⟩))
              · exfalso; omega
          · exfalso; omega
      · show tt Zi d 58 (41, [some (.inr (.inl 20)), some (.inl 0), none, none], [], n, D, s, p, c) _
        refine tt_k 4 (S' := (48, [some (.inr (.inl 20)), some (.inl 0), some (.inl 1), none], [.inl 0], n, D, s, p, c)) rfl ?_
        refine tz_ne (x := 0) rfl rfl (by omega) (fun h23 => ?_) (fun h23 => ?_)
        · exfalso; omega
        · show tt Zi d 58 (51, [some (.inr (.inl 20)), some (.inl 0), some (.inl 1), none], [], n, D, s, p, c) _
          refine tt_k 1 (S' := (52, [some (.inr (.inl 20)), some (.inl 0), some (.inl 1), none], [.inl 1], n, D, s, p, c)) rfl ?_
          refine tz_eq (x := 1) rfl rfl (by omega) (fun h24 => ?_) (fun h24 => ?_)
          · exfalso; omega
          · show tt Zi d 58 (55, [some (.inr (.inl 20)), some (.inl 0), some (.inl 1), none], [], n, D, s, p, c) _
            refine tt_k 7 (S' := (68, [some (.inr (.inl 20)), some (.inl 0), some (.inl 1), none], [.inl (s 601), .inl ((s 2001) + 1)], n, D, s, p, c)) rfl ?_
            refine tb_lt (x := ((s 2001) + 1)) (y := (s 601)) rfl rfl (by omega) (fun h25 => ?_) (fun h25 => ?_)
            · show tt Zi d 58 (75, [some (.inr (.inl 20)), some (.inl 0), some (.inl 1), none], [], n, D, s, p, c) _
              refine tt_k 3 (S' := (78, [some (.inr (.inl 20)), some (.inl 0), some (.inl 1), some (.inl 0)], [.inl 0], n, D, s, p, c)) rfl ?_
              refine tz_ne (x := 0) rfl rfl (by omega) (fun h26 => ?_) (fun h26 => ?_)
              · exfalso; omega
              · show tt Zi d 58 (81, [some (.inr (.inl 20)), some (.inl 0), some (.inl 1), some (.inl 0)], [], n, D, s, p, c) _
                refine tt_k 1 (S' := (82, [some (.inr (.inl 20)), some (.inl 0), some (.inl 1), some (.inl 0)], [.inl 1], n, D, s, p, c)) rfl ?_
                refine tz_eq (x := 1) rfl rfl (by omega) (fun h27 => ?_) (fun h27 => ?_)
                · exfalso; omega
                · show tt Zi d 58 (85, [some (.inr (.inl 20)), some (.inl 0), some (.inl 1), some (.inl 0)], [], n, D, s, p, c) _
                  refine tt_k 6 (S' := (95, [some (.inr (.inl 20)), some (.inl 0), some (.inl 1), some (.inl 0)], [.inl ((s 2001) + 1), .inr (.inl 6)], n, D, s, p, c)) rfl ?_
                  have b28 := (hW).c6
                  refine tt_cl (by omega) rfl (g_get6 (Zi := Zi) (q := q) (n := n) (D := D) (s := s) (p := p) (c := c) (by omega) hz (by omega) hD hS hC hW ((s 2001) + 1) (by omega) (show 0 ≤ ((s 2001) + 1) ∧ ((s 2001) + 1) < (ln D (p 600) : Int) by omega)) ?_
                  rintro _ _ ⟨r29, rfl, rfl, b30⟩
                  show tt Zi d 58 (98, [some (.inr (.inl 20)), some (.inl 0), some (.inl 1), some (.inl 0)], [.inl r29], n, D, s, p, c) _
                  refine tt_k 1 (S' := (101, [some (.inr (.inl 20)), some (.inl 0), some (.inl 1), some (.inl 0)], [.inl 128, .inl r29], n, D, s, p, c)) rfl ?_
                  refine tb_lt (x := r29) (y := 128) rfl rfl (by omega) (fun h31 => ?_) (fun h31 => ?_)
                  · show tt Zi d 58 (148, [some (.inr (.inl 20)), some (.inl 0), some (.inl 1), some (.inl 0)], [], n, D, s, p, c) _
                    refine tt_k 4 (S' := (156, [some (.inr (.inl 20)), some (.inl 0), some (.inl 1), some (.inl 0)], [.inl 255, .inl (s 2002), .inr (.inl 20)], n, D, s, p, c)) rfl ?_
                    have b32 : 0 ≤ (s 2002) ∧ (s 2002) ≤ 255 := hS 2002
                    have K34 : ∀ (j33 : Int) , (7 ≤ j33 ∧ j33 ≤ 8) → (((s 2002) ≠ 255 ∧ j33 = 8) ∨ ((s 2002) = 255 ∧ j33 = 7)) → tt Zi d 58 (166, [some (.inr (.inl 20)), some (.inl 0), some (.inl 1), some (.inl 0)], [.inl j33, .inr (.inl 20)], n, D, s, p, c) (fun R H => (∃ (s' : Nat → Int), R = .inl none ∧ H = (n, D, s', p, c) ∧ bS s' ∧ wp q g n D p s' ∧ fr s s' [2001, 2002, 2003] ∧ (1 ≤ s' 2003) ∧ (s 2001 ≤ 32768 → s' 2001 ≤ 32768)) ∨ (R = .inr 12 ∧ cX ((q + 1)) g s p c [] LXR H)) := by
                      intro j33 b36 hj35
                      refine tt_k 6 (S' := (178, [some (.inr (.inl 20)), some (.inl 0), some (.inl 1), some (.inl 0)], [.inl (s 2001), .inr (.inl 6), .inr (.inl 20)], n, D, (us s 2003 j33), p, c)) rfl ?_
                      have b37 := (hW).c6
                      refine tt_cl (by omega) rfl (g_get6 (Zi := Zi) (q := q) (n := n) (D := D) (s := (us s 2003 j33)) (p := p) (c := c) (by omega) hz (by omega) hD (bS_us hS (show 0 ≤ j33 ∧ j33 ≤ 8 by omega)) hC (wp_us (by decide) hW) (s 2001) (by omega) (show 0 ≤ (s 2001) ∧ (s 2001) < (ln D (p 600) : Int) by omega)) ?_
                      rintro _ _ ⟨r38, rfl, rfl, b39⟩
                      show tt Zi d 58 (181, [some (.inr (.inl 20)), some (.inl 0), some (.inl 1), some (.inl 0)], [.inl r38, .inr (.inl 20)], n, D, (us s 2003 j33), p, c) _
                      refine tt_k 7 (S' := (194, [some (.inr (.inl 20)), some (.inl 0), some (.inl 1), some (.inl 0)], [], n, D, (us (us (us s 2003 j33) 2002 r38) 2001 ((s 2001) + 1)), p, c)) rfl ?_
                      exact tt_rtv rfl rfl (Or.inl ⟨(us (us (us s 2003 j33) 2002 r38) 2001 ((s 2001) + 1)), rfl, rfl, (bS_us (bS_us (bS_us hS (show 0 ≤ j33 ∧ j33 ≤ 8 by omega)) (show 0 ≤ r38 ∧ r38 ≤ 255 by omega)) (show 0 ≤ ((s 2001) + 1) ∧ ((s 2001) + 1) ≤ 100000 by omega)), (wp_us (by decide) (wp_us (by decide) (wp_us (by decide) hW))), (fr_us (by decide) (fr_us (by decide) (fr_us (by decide) fr_rf))), by show 1 ≤ j33; omega, by show s 2001 ≤ 32768 → ((s 2001) + 1) ≤ 32768; omega⟩)
                    refine tb_ne (x := (s 2002)) (y := 255) rfl rfl (by omega) (fun h40 => ?_) (fun h40 => ?_)
                    · show tt Zi d 58 (164, [some (.inr (.inl 20)), some (.inl 0), some (.inl 1), some (.inl 0)], [.inr (.inl 20)], n, D, s, p, c) _
                      refine tt_k 1 (S' := (166, [some (.inr (.inl 20)), some (.inl 0), some (.inl 1), some (.inl 0)], [.inl 8, .inr (.inl 20)], n, D, s, p, c)) rfl ?_
                      exact K34 8  (by omega) (Or.inl ⟨h40, rfl⟩)
                    · show tt Zi d 58 (159, [some (.inr (.inl 20)), some (.inl 0), some (.inl 1), some (.inl 0)], [.inr (.inl 20)], n, D, s, p, c) _
                      refine tt_k 2 (S' := (166, [some (.inr (.inl 20)), some (.inl 0), some (.inl 1), some (.inl 0)], [.inl 7, .inr (.inl 20)], n, D, s, p, c)) rfl ?_
                      exact K34 7  (by omega) (Or.inr (⟨h40, rfl⟩))
                  · show tt Zi d 58 (104, [some (.inr (.inl 20)), some (.inl 0), some (.inl 1), some (.inl 0)], [], n, D, s, p, c) _
                    refine tt_k 2 (S' := (106, [some (.inr (.inl 20)), some (.inl 0), some (.inl 1), some (.inl 0)], [.inl 0, .inr (.inl 20)], n, D, s, p, c)) rfl ?_
                    refine tz_eq (x := 0) rfl rfl (by omega) (fun h41 => ?_) (fun h41 => ?_)
                    · show tt Zi d 58 (113, [some (.inr (.inl 20)), some (.inl 0), some (.inl 1), some (.inl 0)], [.inr (.inl 20)], n, D, s, p, c) _
                      refine tt_k 4 (S' := (120, [some (.inr (.inl 20)), some (.inl 0), some (.inl 1), some (.inl 0)], [.inl 0, .inr (.inl 20)], n, D, (us s 2005 7), p, c)) rfl ?_
                      refine tz_eq (x := 0) rfl rfl (by omega) (fun h42 => ?_) (fun h42 => ?_)
                      · show tt Zi d 58 (133, [some (.inr (.inl 20)), some (.inl 0), some (.inl 1), some (.inl 0)], [.inr (.inl 20)], n, D, (us s 2005 7), p, c) _
                        refine tt_k 3 (S' := (140, [some (.inr (.inl 20)), some (.inl 0), some (.inl 1), some (.inl 0)], [], n, D, (us (us s 2005 7) 2006 (s 2001)), p, c)) rfl ?_
                        have hn43 := wp_n hW (by omega)
                        exact tt_thr (q := (12, 497)) rfl rfl (by decide) (by decide) (by omega) (by omega) (Or.inr ⟨rfl, cX_mono (q := q + 1) ⟨(bS_us (bS_us hS (show 0 ≤ 7 ∧ 7 ≤ 8 by omega)) (show -1 ≤ (s 2001) ∧ (s 2001) ≤ 100000 by omega)), bC_x hC (hW).dz (by decide), wp_x (wp_us (by decide) (wp_us (by decide) hW)), fk_x (fk_rf hD), (show fr s (us (us s 2005 7) 2006 (s 2001)) LXR from (fr_us (by decide) (fr_us (by decide) fr_rf)))⟩ (by omega)⟩)
                      · exfalso; omega
                    · exfalso; omega
            · show tt Zi d 58 (71, [some (.inr (.inl 20)), some (.inl 0), some (.inl 1), none], [], n, D, s, p, c) _
              refine tt_k 4 (S' := (78, [some (.inr (.inl 20)), some (.inl 0), some (.inl 1), some (.inl 1)], [.inl 1], n, D, s, p, c)) rfl ?_
              refine tz_ne (x := 1) rfl rfl (by omega) (fun h44 => ?_) (fun h44 => ?_)
              · show tt Zi d 58 (104, [some (.inr (.inl 20)), some (.inl 0), some (.inl 1), some (.inl 1)], [], n, D, s, p, c) _
                refine tt_k 2 (S' := (106, [some (.inr (.inl 20)), some (.inl 0), some (.inl 1), some (.inl 1)], [.inl 1, .inr (.inl 20)], n, D, s, p, c)) rfl ?_
                refine tz_eq (x := 1) rfl rfl (by omega) (fun h45 => ?_) (fun h45 => ?_)
                · exfalso; omega
                · show tt Zi d 58 (109, [some (.inr (.inl 20)), some (.inl 0), some (.inl 1), some (.inl 1)], [.inr (.inl 20)], n, D, s, p, c) _
                  refine tt_k 5 (S' := (120, [some (.inr (.inl 20)), some (.inl 0), some (.inl 1), some (.inl 1)], [.inl 1, .inr (.inl 20)], n, D, (us s 2005 1), p, c)) rfl ?_
                  refine tz_eq (x := 1) rfl rfl (by omega) (fun h46 => ?_) (fun h46 => ?_)
                  · exfalso; omega
                  · show tt Zi d 58 (123, [some (.inr (.inl 20)), some (.inl 0), some (.inl 1), some (.inl 1)], [.inr (.inl 20)], n, D, (us s 2005 1), p, c) _
                    refine tt_k 5 (S' := (140, [some (.inr (.inl 20)), some (.inl 0), some (.inl 1), some (.inl 1)], [], n, D, (us (us s 2005 1) 2006 (s 601)), p, c)) rfl ?_
                    have hn47 := wp_n hW (by omega)
                    exact tt_thr (q := (12, 497)) rfl rfl (by decide) (by decide) (by omega) (by omega) (Or.inr ⟨rfl, cX_mono (q := q + 1) ⟨(bS_us (bS_us hS (show 0 ≤ 1 ∧ 1 ≤ 8 by omega)) (show -1 ≤ (s 601) ∧ (s 601) ≤ 100000 by omega)), bC_x hC (hW).dz (by decide), wp_x (wp_us (by decide) (wp_us (by decide) hW)), fk_x (fk_rf hD), (show fr s (us (us s 2005 1) 2006 (s 601)) LXR from (fr_us (by decide) (fr_us (by decide) fr_rf)))⟩ (by omega)⟩)
              · exfalso; omega
  · show tt Zi d 58 (14, [some (.inr (.inl 20)), none, none, none], [], n, D, s, p, c) _
    refine tt_k 4 (S' := (21, [some (.inr (.inl 20)), some (.inl 1), none, none], [.inl 1], n, D, s, p, c)) rfl ?_
    refine tz_ne (x := 1) rfl rfl (by omega) (fun h48 => ?_) (fun h48 => ?_)
    · show tt Zi d 58 (45, [some (.inr (.inl 20)), some (.inl 1), none, none], [], n, D, s, p, c) _
      refine tt_k 3 (S' := (48, [some (.inr (.inl 20)), some (.inl 1), some (.inl 0), none], [.inl 1], n, D, s, p, c)) rfl ?_
      refine tz_ne (x := 1) rfl rfl (by omega) (fun h49 => ?_) (fun h49 => ?_)
      · show tt Zi d 58 (71, [some (.inr (.inl 20)), some (.inl 1), some (.inl 0), none], [], n, D, s, p, c) _
        refine tt_k 4 (S' := (78, [some (.inr (.inl 20)), some (.inl 1), some (.inl 0), some (.inl 1)], [.inl 1], n, D, s, p, c)) rfl ?_
        refine tz_ne (x := 1) rfl rfl (by omega) (fun h50 => ?_) (fun h50 => ?_)
        · show tt Zi d 58 (104, [some (.inr (.inl 20)), some (.inl 1), some (.inl 0), some (.inl 1)], [], n, D, s, p, c) _
          refine tt_k 2 (S' := (106, [some (.inr (.inl 20)), some (.inl 1), some (.inl 0), some (.inl 1)], [.inl 1, .inr (.inl 20)], n, D, s, p, c)) rfl ?_
          refine tz_eq (x := 1) rfl rfl (by omega) (fun h51 => ?_) (fun h51 => ?_)
          · exfalso; omega
          · show tt Zi d 58 (109, [some (.inr (.inl 20)), some (.inl 1), some (.inl 0), some (.inl 1)], [.inr (.inl 20)], n, D, s, p, c) _
            refine tt_k 5 (S' := (120, [some (.inr (.inl 20)), some (.inl 1), some (.inl 0), some (.inl 1)], [.inl 1, .inr (.inl 20)], n, D, (us s 2005 1), p, c)) rfl ?_
            refine tz_eq (x := 1) rfl rfl (by omega) (fun h52 => ?_) (fun h52 => ?_)
            · exfalso; omega
            · show tt Zi d 58 (123, [some (.inr (.inl 20)), some (.inl 1), some (.inl 0), some (.inl 1)], [.inr (.inl 20)], n, D, (us s 2005 1), p, c) _
              refine tt_k 5 (S' := (140, [some (.inr (.inl 20)), some (.inl 1), some (.inl 0), some (.inl 1)], [], n, D, (us (us s 2005 1) 2006 (s 601)), p, c)) rfl ?_
              have hn53 := wp_n hW (by omega)
              exact tt_thr (q := (12, 497)) rfl rfl (by decide) (by decide) (by omega) (by omega) (Or.inr ⟨rfl, cX_mono (q := q + 1) ⟨(bS_us (bS_us hS (show 0 ≤ 1 ∧ 1 ≤ 8 by omega)) (show -1 ≤ (s 601) ∧ (s 601) ≤ 100000 by omega)), bC_x hC (hW).dz (by decide), wp_x (wp_us (by decide) (wp_us (by decide) hW)), fk_x (fk_rf hD), (show fr s (us (us s 2005 1) 2006 (s 601)) LXR from (fr_us (by decide) (fr_us (by decide) fr_rf)))⟩ (by omega)⟩)
        · exfalso; omega
      · exfalso; omega
    · exfalso; omega
set_option maxRecDepth 100000 in
set_option maxHeartbeats 4000000 in
theorem g_readBits_L4 {g : Nat → Int} {Zi : Nat → Option (Nat × (Nat → Int))} {d n q : Nat} {D : Nat → Nat × Nat} {s : Nat → Int} {p : Nat → Nat} {c : Nat → Nat → Int}  {Q : mi_Rs → mi_H → Prop} (hd : 5 ≤ d) (hz : zk Zi) (hq : q + 10 ≤ 400001) (hD : wd n p) (hS : bS s) (hC : bC D c) (hW : wp q g n D p s) (n_ : Int) (b_n_ : 0 ≤ n_ ∧ n_ ≤ 30) (hX12 : ∀ H, cX (q + 1) g s p c [] LXR H → Q (.inr 12) H)
  (hK : ∀ (v : Int) (k : Int) (s0 : Nat → Int) (b_v : 0 ≤ v ∧ v ≤ 1073741823) (b_k : 0 ≤ k ∧ k ≤ 30) (hS0 : bS s0) (hF0 : fr s s0 [2001, 2002, 2003]) (hW0 : wp q g n D p s0) (i0 : k ≤ n_) (i1 : v < 2 ^ k.toNat) (i2 : s 2001 ≤ 32768 → s0 2001 ≤ 32768), (n_ ≤ k) → tt Zi d 57 (52, [some (.inr (.inl 20)), some (.inl n_), some (.inl v), some (.inl k)], [], n, D, s0, p, c) Q) :
  ∀ (m : Nat) (v : Int) (k : Int) (s0 : Nat → Int) (b_v : 0 ≤ v ∧ v ≤ 1073741823) (b_k : 0 ≤ k ∧ k ≤ 30) (hS0 : bS s0) (hF0 : fr s s0 [2001, 2002, 2003]) (hW0 : wp q g n D p s0) (i0 : k ≤ n_) (i1 : v < 2 ^ k.toNat) (i2 : s 2001 ≤ 32768 → s0 2001 ≤ 32768), (n_ - k).toNat < m → tt Zi d 57 (4, [some (.inr (.inl 20)), some (.inl n_), some (.inl v), some (.inl k)], [], n, D, s0, p, c) Q := by
  intro m
  induction m with
  | zero => intro v k s0 b_v b_k hS0 hF0 hW0 i0 i1 i2 hm; exact absurd hm (by omega)
  | succ m ih =>
    intro v k s0 b_v b_k hS0 hF0 hW0 i0 i1 i2 hm
    refine tt_k 2 (S' := (6, [some (.inr (.inl 20)), some (.inl n_), some (.inl v), some (.inl k)], [.inl n_, .inl k], n, D, s0, p, c)) rfl ?_
    refine tb_ge (x := k) (y := n_) rfl rfl (by omega) (fun h1 => ?_) (fun h1 => ?_)
    · show tt Zi d 57 (52, [some (.inr (.inl 20)), some (.inl n_), some (.inl v), some (.inl k)], [], n, D, s0, p, c) _
      exact hK v k s0 (by omega) (by omega) hS0 hF0 hW0 i0 i1 i2 (by omega)
    · show tt Zi d 57 (9, [some (.inr (.inl 20)), some (.inl n_), some (.inl v), some (.inl k)], [], n, D, s0, p, c) _
      refine tt_k 2 (S' := (13, [some (.inr (.inl 20)), some (.inl n_), some (.inl v), some (.inl k)], [.inl (s0 2003)], n, D, s0, p, c)) rfl ?_
      have b2 : 0 ≤ (s0 2003) ∧ (s0 2003) ≤ 8 := hS0 2003
      refine tz_ne (x := (s0 2003)) rfl rfl (by omega) (fun h3 => ?_) (fun h3 => ?_)
      · show tt Zi d 57 (20, [some (.inr (.inl 20)), some (.inl n_), some (.inl v), some (.inl k)], [], n, D, s0, p, c) _
        refine tt_k 14 (S' := (42, [some (.inr (.inl 20)), some (.inl n_), some (.inl v), some (.inl k)], [.inl ((mi_shr (s0 2002) ((s0 2003) - 1))), .inl (2 * v)], n, D, (us s0 2003 ((s0 2003) - 1)), p, c)) rfl ?_
        refine tt_k 6 (S' := (4, [some (.inr (.inl 20)), some (.inl n_), some (.inl (((2 * v) + (mi_and (mi_shr (s0 2002) ((s0 2003) - 1)) 1)))), some (.inl (k + 1))], [], n, D, (us s0 2003 ((s0 2003) - 1)), p, c)) rfl ?_
        have b4 : 0 ≤ (s0 2002) ∧ (s0 2002) ≤ 255 := hS0 2002
        have e5 := mi_shr_nn (x := (s0 2002)) (k := ((s0 2003) - 1)) (by omega) (by omega)
        have e6 := mi_and1 ((mi_shr (s0 2002) ((s0 2003) - 1)))
        have hp1 := pw_s (k := k) (by omega)
        have hp2 := mi_pw (a := (k + 1).toNat) (b := 30) (by omega)
        have hp3 : (2 : Int) ^ 30 = 1073741824 := by decide
        exact ih (((2 * v) + (mi_and (mi_shr (s0 2002) ((s0 2003) - 1)) 1))) (k + 1) (us s0 2003 ((s0 2003) - 1)) (by omega) (by omega) (bS_us hS0 (show 0 ≤ ((s0 2003) - 1) ∧ ((s0 2003) - 1) ≤ 8 by omega)) (fr_us (by decide) hF0) (wp_us (by decide) hW0) (show (k + 1) ≤ n_ by omega) (show (((2 * v) + (mi_and (mi_shr (s0 2002) ((s0 2003) - 1)) 1))) < 2 ^ (k + 1).toNat by omega) (show s 2001 ≤ 32768 → (s0 2001) ≤ 32768 by omega) (show (n_ - (k + 1)).toNat < m by omega)
      · show tt Zi d 57 (16, [some (.inr (.inl 20)), some (.inl n_), some (.inl v), some (.inl k)], [], n, D, s0, p, c) _
        refine tt_k 1 (S' := (17, [some (.inr (.inl 20)), some (.inl n_), some (.inl v), some (.inl k)], [.inr (.inl 20)], n, D, s0, p, c)) rfl ?_
        refine tt_cl (by omega) rfl (g_openByte (Zi := Zi) (q := q) (n := n) (D := D) (s := s0) (p := p) (c := c) (by omega) hz (by omega) hD hS0 hC hW0 ) ?_
        rintro _ H1 (⟨s7, rfl, rfl, hS7, hW8, f9, k10, k11⟩ | ⟨rfl, hY12⟩)
        rotate_left
        · exact tt_ax rfl (hX12 _ (cX_mono (cX_trx (fk_rf hD) (fr_wk (show fr s s0 [2001, 2002, 2003] from hF0) (by decide)) hY12 (by decide)) (by omega)))
        show tt Zi d 57 (20, [some (.inr (.inl 20)), some (.inl n_), some (.inl v), some (.inl k)], [], n, D, s7, p, c) _
        replace k10 : 1 ≤ (s7 2003) := k10
        replace k11 : (s0 2001) ≤ 32768 → (s7 2001) ≤ 32768 := k11
        have b13 : 0 ≤ (s7 2003) ∧ (s7 2003) ≤ 8 := hS7 2003
        have b14 : 0 ≤ (s0 2001) ∧ (s0 2001) ≤ 100000 := hS0 2001
        have b15 : 0 ≤ (s7 2001) ∧ (s7 2001) ≤ 100000 := hS7 2001
        refine tt_k 14 (S' := (42, [some (.inr (.inl 20)), some (.inl n_), some (.inl v), some (.inl k)], [.inl ((mi_shr (s7 2002) ((s7 2003) - 1))), .inl (2 * v)], n, D, (us s7 2003 ((s7 2003) - 1)), p, c)) rfl ?_
        refine tt_k 6 (S' := (4, [some (.inr (.inl 20)), some (.inl n_), some (.inl (((2 * v) + (mi_and (mi_shr (s7 2002) ((s7 2003) - 1)) 1)))), some (.inl (k + 1))], [], n, D, (us s7 2003 ((s7 2003) - 1)), p, c)) rfl ?_
        have b16 : 0 ≤ (s7 2002) ∧ (s7 2002) ≤ 255 := hS7 2002
        have e17 := mi_shr_bd (s7 2002) ((s7 2003) - 1)
        have e18 := mi_and1 ((mi_shr (s7 2002) ((s7 2003) - 1)))
        have hp1 := pw_s (k := k) (by omega)
        have hp2 := mi_pw (a := (k + 1).toNat) (b := 30) (by omega)
        have hp3 : (2 : Int) ^ 30 = 1073741824 := by decide
        exact ih (((2 * v) + (mi_and (mi_shr (s7 2002) ((s7 2003) - 1)) 1))) (k + 1) (us s7 2003 ((s7 2003) - 1)) (by omega) (by omega) (bS_us hS7 (show 0 ≤ ((s7 2003) - 1) ∧ ((s7 2003) - 1) ≤ 8 by omega)) (fr_us (by decide) (fr_tr hF0 f9 (by decide))) (wp_us (by decide) hW8) (show (k + 1) ≤ n_ by omega) (show (((2 * v) + (mi_and (mi_shr (s7 2002) ((s7 2003) - 1)) 1))) < 2 ^ (k + 1).toNat by omega) (show s 2001 ≤ 32768 → (s7 2001) ≤ 32768 by omega) (show (n_ - (k + 1)).toNat < m by omega)
set_option maxRecDepth 100000 in
set_option maxHeartbeats 4000000 in
theorem g_readBits {g : Nat → Int} {Zi : Nat → Option (Nat × (Nat → Int))} {d n q : Nat} {D : Nat → Nat × Nat} {s : Nat → Int} {p : Nat → Nat} {c : Nat → Nat → Int} (hd : 5 ≤ d) (hz : zk Zi) (hq : q + 10 ≤ 400000) (hD : wd n p) (hS : bS s) (hC : bC D c) (hW : wp q g n D p s) (n_ : Int) (b_n_ : 0 ≤ n_ ∧ n_ ≤ 30) : tt Zi d 57 (0, [some (.inr (.inl 20)), some (.inl n_), none, none], [], n, D, s, p, c) (fun R H => (∃ (s' : Nat → Int) (r : Int), R = .inl (some (.inl r)) ∧ H = (n, D, s', p, c) ∧ bS s' ∧ wp q g n D p s' ∧ fr s s' [2001, 2002, 2003] ∧ (0 ≤ r ∧ r ≤ 1073741823) ∧ (s 2001 ≤ 32768 → s' 2001 ≤ 32768) ∧ (r < 2 ^ (n_ : Int).toNat)) ∨ (R = .inr 12 ∧ cX ((q + 1)) g s p c [] LXR H)) := by
  refine tt_k 4 (S' := (4, [some (.inr (.inl 20)), some (.inl n_), some (.inl 0), some (.inl 0)], [], n, D, s, p, c)) rfl ?_
  refine g_readBits_L4 (Zi := Zi) (q := q) (n := n) (D := D) (s := s) (p := p) (c := c) hd hz (by omega) hD hS hC hW  n_ (by omega)  (fun H h => (Or.inr ⟨rfl, cX_mono (cX_trx (fk_rf hD) (show fr s s LXR from fr_rf) h (by decide)) (by omega)⟩)) ?_ _ 0 0 s (by omega) (by omega) hS fr_rf hW (show 0 ≤ n_ by omega) (by decide) (fun h => h) (Nat.lt_succ_self _)
  intro x1 x2 s3 b4 b5 hS3 f6 hW7 i8 i9 i10 hx11
  show tt Zi d 57 (52, [some (.inr (.inl 20)), some (.inl n_), some (.inl x1), some (.inl x2)], [], n, D, s3, p, c) _
  replace i8 : x2 ≤ n_ := i8
  replace i9 : x1 < 2 ^ x2.toNat := i9
  replace i10 : (s 2001) ≤ 32768 → (s3 2001) ≤ 32768 := i10
  have b12 : 0 ≤ (s3 2001) ∧ (s3 2001) ≤ 100000 := hS3 2001
  replace hx11 : n_ ≤ x2 := hx11
  refine tt_k 1 (S' := (53, [some (.inr (.inl 20)), some (.inl n_), some (.inl x1), some (.inl x2)], [.inl x1], n, D, s3, p, c)) rfl ?_
  exact tt_rti rfl rfl (Or.inl ⟨s3, x1, rfl, rfl, hS3, hW7, (fr_tr fr_rf f6 (by decide)), by omega, by show s 2001 ≤ 32768 → (s3 2001) ≤ 32768; omega, by show x1 < 2 ^ (n_ : Int).toNat; have ek : x2 = n_ := (by omega); rw [← ek]; exact i9⟩)
set_option maxRecDepth 100000 in
set_option maxHeartbeats 4000000 in
theorem g_readNumber_L18 {g : Nat → Int} {Zi : Nat → Option (Nat × (Nat → Int))} {d n q : Nat} {D : Nat → Nat × Nat} {s : Nat → Int} {p : Nat → Nat} {c : Nat → Nat → Int}  {Q : mi_Rs → mi_H → Prop} (hd : 6 ≤ d) (hz : zk Zi) (hq : q + 12 ≤ 400001) (hD : wd n p) (hS : bS s) (hC : bC D c) (hW : wp q g n D p s) (k_ : Int) (mz : Int) (wb : Int) (b_k_ : 0 ≤ k_ ∧ k_ ≤ 30) (b_mz : -100 ≤ mz ∧ mz ≤ 63) (b_wb : 0 ≤ wb ∧ wb ≤ 30) (hX12 : ∀ H, cX (q + 1) g s p c [] LXR H → Q (.inr 12) H)
  (hK : ∀ (bt_ : Int) (z : Int) (s0 : Nat → Int) (b_bt_ : 0 ≤ bt_ ∧ bt_ ≤ 1073741823) (b_z : 0 ≤ z ∧ z ≤ 64) (hS0 : bS s0) (hF0 : fr s s0 [2001, 2002, 2003]) (hW0 : wp q g n D p s0) (i0 : z ≤ max 0 mz) (i1 : s 2001 ≤ 32768 → s0 2001 ≤ 32768), (True) → tt Zi d 56 (42, [some (.inr (.inl 20)), some (.inl k_), some (.inl mz), some (.inl wb), some (.inl bt_), some (.inl z)], [], n, D, s0, p, c) Q) :
  ∀ (m : Nat) (bt_ : Int) (z : Int) (s0 : Nat → Int) (b_bt_ : 0 ≤ bt_ ∧ bt_ ≤ 1073741823) (b_z : 0 ≤ z ∧ z ≤ 64) (hS0 : bS s0) (hF0 : fr s s0 [2001, 2002, 2003]) (hW0 : wp q g n D p s0) (i0 : z ≤ max 0 mz) (i1 : s 2001 ≤ 32768 → s0 2001 ≤ 32768), (mz - z).toNat < m → tt Zi d 56 (18, [some (.inr (.inl 20)), some (.inl k_), some (.inl mz), some (.inl wb), some (.inl bt_), some (.inl z)], [], n, D, s0, p, c) Q := by
  intro m
  induction m with
  | zero => intro bt_ z s0 b_bt_ b_z hS0 hF0 hW0 i0 i1 hm; exact absurd hm (by omega)
  | succ m ih =>
    intro bt_ z s0 b_bt_ b_z hS0 hF0 hW0 i0 i1 hm
    have e1 : s0 2004 = s 2004 := hF0 2004 (by decide)
    have b2 : -1 ≤ (s0 2004) ∧ (s0 2004) ≤ 100000 := hS0 2004
    have b3 : -1 ≤ (s 2004) ∧ (s 2004) ≤ 100000 := hS 2004
    refine tt_k 1 (S' := (20, [some (.inr (.inl 20)), some (.inl k_), some (.inl mz), some (.inl wb), some (.inl bt_), some (.inl z)], [.inl bt_], n, D, s0, p, c)) rfl ?_
    refine tz_ne (x := bt_) rfl rfl (by omega) (fun h4 => ?_) (fun h4 => ?_)
    · show tt Zi d 56 (42, [some (.inr (.inl 20)), some (.inl k_), some (.inl mz), some (.inl wb), some (.inl bt_), some (.inl z)], [], n, D, s0, p, c) _
      exact hK bt_ z s0 (by omega) (by omega) hS0 hF0 hW0 (show z ≤ max 0 mz by omega) (show s 2001 ≤ 32768 → (s0 2001) ≤ 32768 by omega) trivial
    · show tt Zi d 56 (23, [some (.inr (.inl 20)), some (.inl k_), some (.inl mz), some (.inl wb), some (.inl bt_), some (.inl z)], [], n, D, s0, p, c) _
      refine tt_k 2 (S' := (26, [some (.inr (.inl 20)), some (.inl k_), some (.inl mz), some (.inl wb), some (.inl bt_), some (.inl z)], [.inl mz, .inl z], n, D, s0, p, c)) rfl ?_
      refine tb_ge (x := z) (y := mz) rfl rfl (by omega) (fun h5 => ?_) (fun h5 => ?_)
      · show tt Zi d 56 (42, [some (.inr (.inl 20)), some (.inl k_), some (.inl mz), some (.inl wb), some (.inl bt_), some (.inl z)], [], n, D, s0, p, c) _
        exact hK bt_ z s0 (by omega) (by omega) hS0 hF0 hW0 (show z ≤ max 0 mz by omega) (show s 2001 ≤ 32768 → (s0 2001) ≤ 32768 by omega) trivial
      · show tt Zi d 56 (29, [some (.inr (.inl 20)), some (.inl k_), some (.inl mz), some (.inl wb), some (.inl bt_), some (.inl z)], [], n, D, s0, p, c) _
        refine tt_k 3 (S' := (34, [some (.inr (.inl 20)), some (.inl k_), some (.inl mz), some (.inl wb), some (.inl bt_), some (.inl (z + 1))], [.inl 1, .inr (.inl 20)], n, D, s0, p, c)) rfl ?_
        refine tt_cl (by omega) rfl (g_readBits (Zi := Zi) (q := q) (n := n) (D := D) (s := s0) (p := p) (c := c) (by omega) hz (by omega) hD hS0 hC hW0 1 (by omega)) ?_
        rintro _ H1 (⟨s6, r7, rfl, rfl, hS6, hW8, f9, b10, k11, k12⟩ | ⟨rfl, hY13⟩)
        rotate_left
        · exact tt_ax rfl (hX12 _ (cX_mono (cX_trx (fk_rf hD) (fr_wk (show fr s s0 [2001, 2002, 2003] from hF0) (by decide)) hY13 (by decide)) (by omega)))
        show tt Zi d 56 (37, [some (.inr (.inl 20)), some (.inl k_), some (.inl mz), some (.inl wb), some (.inl bt_), some (.inl (z + 1))], [.inl r7], n, D, s6, p, c) _
        replace k11 : (s0 2001) ≤ 32768 → (s6 2001) ≤ 32768 := k11
        replace k12 : r7 < 2 ^ (1 : Int).toNat := k12
        have b14 : 0 ≤ (s0 2001) ∧ (s0 2001) ≤ 100000 := hS0 2001
        have b15 : 0 ≤ (s6 2001) ∧ (s6 2001) ≤ 100000 := hS6 2001
        have e16 : s6 2004 = (s0 2004) := (f9 2004 (by decide))
        have b17 : -1 ≤ (s6 2004) ∧ (s6 2004) ≤ 100000 := hS6 2004
        refine tt_k 2 (S' := (18, [some (.inr (.inl 20)), some (.inl k_), some (.inl mz), some (.inl wb), some (.inl r7), some (.inl (z + 1))], [], n, D, s6, p, c)) rfl ?_
        exact ih r7 (z + 1) s6 (by omega) (by omega) hS6 (fr_tr hF0 f9 (by decide)) hW8 (show (z + 1) ≤ max 0 mz by omega) (show s 2001 ≤ 32768 → (s6 2001) ≤ 32768 by omega) (show (mz - (z + 1)).toNat < m by omega)
set_option maxRecDepth 100000 in
set_option maxHeartbeats 4000000 in
theorem g_readNumber {g : Nat → Int} {Zi : Nat → Option (Nat × (Nat → Int))} {d n q : Nat} {D : Nat → Nat × Nat} {s : Nat → Int} {p : Nat → Nat} {c : Nat → Nat → Int} (hd : 6 ≤ d) (hz : zk Zi) (hq : q + 12 ≤ 400000) (hD : wd n p) (hS : bS s) (hC : bC D c) (hW : wp q g n D p s) (k_ : Int) (mz : Int) (wb : Int) (b_k_ : 0 ≤ k_ ∧ k_ ≤ 30) (b_mz : -100 ≤ mz ∧ mz ≤ 63) (b_wb : 0 ≤ wb ∧ wb ≤ 30) : tt Zi d 56 (0, [some (.inr (.inl 20)), some (.inl k_), some (.inl mz), some (.inl wb), none, none], [], n, D, s, p, c) (fun R H => (∃ (s' : Nat → Int) (r : Int), R = .inl (some (.inl r)) ∧ H = (n, D, s', p, c) ∧ bS s' ∧ wp q g n D p s' ∧ fr s s' [2001, 2002, 2003, 2004] ∧ (-2147483648 ≤ r ∧ r ≤ 2147483647) ∧ (s 2001 ≤ 32768 → s' 2001 ≤ 32768)) ∨ (R = .inr 12 ∧ cX ((q + 1)) g s p c [] LXR H)) := by
  refine tt_k 2 (S' := (2, [some (.inr (.inl 20)), some (.inl k_), some (.inl mz), some (.inl wb), none, none], [.inl 1, .inr (.inl 20)], n, D, s, p, c)) rfl ?_
  refine tt_cl (by omega) rfl (g_readBits (Zi := Zi) (q := q) (n := n) (D := D) (s := s) (p := p) (c := c) (by omega) hz (by omega) hD hS hC hW 1 (by omega)) ?_
  rintro _ H1 (⟨s1, r2, rfl, rfl, hS1, hW3, f4, b5, k6, k7⟩ | ⟨rfl, hY8⟩)
  rotate_left
  · exact tt_ax rfl (Or.inr ⟨rfl, cX_mono (cX_trx (fk_rf hD) (show fr s s LXR from fr_rf) hY8 (by decide)) (by omega)⟩)
  show tt Zi d 56 (5, [some (.inr (.inl 20)), some (.inl k_), some (.inl mz), some (.inl wb), none, none], [.inl r2], n, D, s1, p, c) _
  replace k6 : (s 2001) ≤ 32768 → (s1 2001) ≤ 32768 := k6
  replace k7 : r2 < 2 ^ (1 : Int).toNat := k7
  have b9 : 0 ≤ (s 2001) ∧ (s 2001) ≤ 100000 := hS 2001
  have b10 : 0 ≤ (s1 2001) ∧ (s1 2001) ≤ 100000 := hS1 2001
  have e11 : s1 2004 = (s 2004) := (f4 2004 (by decide))
  have b12 : -1 ≤ (s1 2004) ∧ (s1 2004) ≤ 100000 := hS1 2004
  have b13 : -1 ≤ (s 2004) ∧ (s 2004) ≤ 100000 := hS 2004
  refine tt_k 3 (S' := (9, [some (.inr (.inl 20)), some (.inl k_), some (.inl mz), some (.inl wb), some (.inl r2), none], [.inr (.inl 20), .inr (.inl 20)], n, D, s1, p, c)) rfl ?_
  refine tt_cl (by omega) rfl (g_openPlace (Zi := Zi) (q := q) (n := n) (D := D) (s := s1) (p := p) (c := c) (by omega) hz (by omega) hD hS1 hC hW3 ) ?_
  rintro _ _ ⟨r14, rfl, rfl, b15, k16⟩
  show tt Zi d 56 (12, [some (.inr (.inl 20)), some (.inl k_), some (.inl mz), some (.inl wb), some (.inl r2), none], [.inl r14, .inr (.inl 20)], n, D, s1, p, c) _
  replace k16 : r14 = (s1 2001) - 1 := k16
  refine tt_k 3 (S' := (18, [some (.inr (.inl 20)), some (.inl k_), some (.inl mz), some (.inl wb), some (.inl r2), some (.inl 0)], [], n, D, (us s1 2004 r14), p, c)) rfl ?_
  refine g_readNumber_L18 (Zi := Zi) (q := q) (n := n) (D := D) (s := (us s1 2004 r14)) (p := p) (c := c) hd hz (by omega) hD (bS_us hS1 (show -1 ≤ r14 ∧ r14 ≤ 100000 by omega)) hC (wp_us (by decide) hW3)  k_ mz wb (by omega) (by omega) (by omega)  (fun H h => (Or.inr ⟨rfl, cX_mono (cX_trx (fk_rf hD) (show fr s (us s1 2004 r14) LXR from (fr_us (by decide) (fr_tr fr_rf f4 (by decide)))) h (by decide)) (by omega)⟩)) ?_ _ r2 0 (us s1 2004 r14) (by omega) (by omega) (bS_us hS1 (show -1 ≤ r14 ∧ r14 ≤ 100000 by omega)) fr_rf (wp_us (by decide) hW3) (show 0 ≤ max 0 mz by omega) (fun h => h) (Nat.lt_succ_self _)
  intro x17 x18 s19 b20 b21 hS19 f22 hW23 i24 i25 hx26
  show tt Zi d 56 (42, [some (.inr (.inl 20)), some (.inl k_), some (.inl mz), some (.inl wb), some (.inl x17), some (.inl x18)], [], n, D, s19, p, c) _
  replace i24 : x18 ≤ max 0 mz := i24
  replace i25 : (s1 2001) ≤ 32768 → (s19 2001) ≤ 32768 := i25
  have b27 : 0 ≤ (s19 2001) ∧ (s19 2001) ≤ 100000 := hS19 2001
  have e28 : s19 2004 = r14 := (f22 2004 (by decide))
  have b29 : -1 ≤ (s19 2004) ∧ (s19 2004) ≤ 100000 := hS19 2004
  refine tt_k 1 (S' := (44, [some (.inr (.inl 20)), some (.inl k_), some (.inl mz), some (.inl wb), some (.inl x17), some (.inl x18)], [.inl x17], n, D, s19, p, c)) rfl ?_
  refine tz_ne (x := x17) rfl rfl (by omega) (fun h30 => ?_) (fun h30 => ?_)
  · show tt Zi d 56 (57, [some (.inr (.inl 20)), some (.inl k_), some (.inl mz), some (.inl wb), some (.inl x17), some (.inl x18)], [], n, D, s19, p, c) _
    refine tt_k 2 (S' := (60, [some (.inr (.inl 20)), some (.inl k_), some (.inl mz), some (.inl wb), some (.inl x17), some (.inl x18)], [.inl mz, .inl x18], n, D, s19, p, c)) rfl ?_
    refine tb_ge (x := x18) (y := mz) rfl rfl (by omega) (fun h31 => ?_) (fun h31 => ?_)
    · show tt Zi d 56 (76, [some (.inr (.inl 20)), some (.inl k_), some (.inl mz), some (.inl wb), some (.inl x17), some (.inl x18)], [], n, D, s19, p, c) _
      refine tt_k 3 (S' := (79, [some (.inr (.inl 20)), some (.inl k_), some (.inl mz), some (.inl wb), some (.inl x17), some (.inl x18)], [.inl wb, .inr (.inl 20), .inl 1], n, D, s19, p, c)) rfl ?_
      refine tt_cl (by omega) rfl (g_readBits (Zi := Zi) (q := q) (n := n) (D := D) (s := s19) (p := p) (c := c) (by omega) hz (by omega) hD hS19 hC hW23 wb (by omega)) ?_
      rintro _ H1 (⟨s32, r33, rfl, rfl, hS32, hW34, f35, b36, k37, k38⟩ | ⟨rfl, hY39⟩)
      rotate_left
      · exact tt_ax rfl (Or.inr ⟨rfl, cX_mono (cX_trx (fk_rf hD) (show fr s s19 LXR from (fr_tr (fr_us (by decide) (fr_tr fr_rf f4 (by decide))) f22 (by decide))) hY39 (by decide)) (by omega)⟩)
      show tt Zi d 56 (82, [some (.inr (.inl 20)), some (.inl k_), some (.inl mz), some (.inl wb), some (.inl x17), some (.inl x18)], [.inl r33, .inl 1], n, D, s32, p, c) _
      replace k37 : (s19 2001) ≤ 32768 → (s32 2001) ≤ 32768 := k37
      replace k38 : r33 < 2 ^ (wb : Int).toNat := k38
      have b40 : 0 ≤ (s32 2001) ∧ (s32 2001) ≤ 100000 := hS32 2001
      have e41 : s32 2004 = (s19 2004) := (f35 2004 (by decide))
      have b42 : -1 ≤ (s32 2004) ∧ (s32 2004) ≤ 100000 := hS32 2004
      refine tt_k 1 (S' := (83, [some (.inr (.inl 20)), some (.inl k_), some (.inl mz), some (.inl wb), some (.inl x17), some (.inl x18)], [.inl (1 + r33)], n, D, s32, p, c)) rfl ?_
      refine tt_wm (x := (1 + r33)) ?_
      intro v43 b44 w45
      show tt Zi d 56 (83, [some (.inr (.inl 20)), some (.inl k_), some (.inl mz), some (.inl wb), some (.inl x17), some (.inl x18)], [.inl v43], n, D, s32, p, c) _
      exact tt_rti rfl rfl (Or.inl ⟨s32, v43, rfl, rfl, hS32, hW34, (fr_tr (fr_tr (fr_us (by decide) (fr_tr fr_rf f4 (by decide))) f22 (by decide)) f35 (by decide)), by omega, by show s 2001 ≤ 32768 → (s32 2001) ≤ 32768; omega⟩)
    · show tt Zi d 56 (63, [some (.inr (.inl 20)), some (.inl k_), some (.inl mz), some (.inl wb), some (.inl x17), some (.inl x18)], [], n, D, s19, p, c) _
      refine tt_k 5 (S' := (69, [some (.inr (.inl 20)), some (.inl k_), some (.inl mz), some (.inl wb), some (.inl x17), some (.inl x18)], [.inl k_, .inr (.inl 20), .inl (mi_shl x18 k_)], n, D, s19, p, c)) rfl ?_
      refine tt_cl (by omega) rfl (g_readBits (Zi := Zi) (q := q) (n := n) (D := D) (s := s19) (p := p) (c := c) (by omega) hz (by omega) hD hS19 hC hW23 k_ (by omega)) ?_
      rintro _ H1 (⟨s46, r47, rfl, rfl, hS46, hW48, f49, b50, k51, k52⟩ | ⟨rfl, hY53⟩)
      rotate_left
      · exact tt_ax rfl (Or.inr ⟨rfl, cX_mono (cX_trx (fk_rf hD) (show fr s s19 LXR from (fr_tr (fr_us (by decide) (fr_tr fr_rf f4 (by decide))) f22 (by decide))) hY53 (by decide)) (by omega)⟩)
      show tt Zi d 56 (72, [some (.inr (.inl 20)), some (.inl k_), some (.inl mz), some (.inl wb), some (.inl x17), some (.inl x18)], [.inl r47, .inl (mi_shl x18 k_)], n, D, s46, p, c) _
      replace k51 : (s19 2001) ≤ 32768 → (s46 2001) ≤ 32768 := k51
      replace k52 : r47 < 2 ^ (k_ : Int).toNat := k52
      have b54 : 0 ≤ (s46 2001) ∧ (s46 2001) ≤ 100000 := hS46 2001
      have e55 : s46 2004 = (s19 2004) := (f49 2004 (by decide))
      have b56 : -1 ≤ (s46 2004) ∧ (s46 2004) ≤ 100000 := hS46 2004
      refine tt_k 1 (S' := (73, [some (.inr (.inl 20)), some (.inl k_), some (.inl mz), some (.inl wb), some (.inl x17), some (.inl x18)], [.inl ((mi_shl x18 k_) + r47)], n, D, s46, p, c)) rfl ?_
      have e58 := mi_shl_bd x18 k_
      refine tt_wm (x := ((mi_shl x18 k_) + r47)) ?_
      intro v57 b59 w60
      show tt Zi d 56 (73, [some (.inr (.inl 20)), some (.inl k_), some (.inl mz), some (.inl wb), some (.inl x17), some (.inl x18)], [.inl v57], n, D, s46, p, c) _
      refine tt_k 1 (S' := (83, [some (.inr (.inl 20)), some (.inl k_), some (.inl mz), some (.inl wb), some (.inl x17), some (.inl x18)], [.inl v57], n, D, s46, p, c)) rfl ?_
      refine tt_wm (x := v57) ?_
      intro v61 b62 w63
      show tt Zi d 56 (83, [some (.inr (.inl 20)), some (.inl k_), some (.inl mz), some (.inl wb), some (.inl x17), some (.inl x18)], [.inl v61], n, D, s46, p, c) _
      exact tt_rti rfl rfl (Or.inl ⟨s46, v61, rfl, rfl, hS46, hW48, (fr_tr (fr_tr (fr_us (by decide) (fr_tr fr_rf f4 (by decide))) f22 (by decide)) f49 (by decide)), by omega, by show s 2001 ≤ 32768 → (s46 2001) ≤ 32768; omega⟩)
  · show tt Zi d 56 (47, [some (.inr (.inl 20)), some (.inl k_), some (.inl mz), some (.inl wb), some (.inl x17), some (.inl x18)], [], n, D, s19, p, c) _
    refine tt_k 4 (S' := (54, [some (.inr (.inl 20)), some (.inl k_), some (.inl mz), some (.inl wb), some (.inl x17), some (.inl x18)], [.inl (s19 2004), .inl 7, .inr (.inl 20)], n, D, s19, p, c)) rfl ?_
    refine tt_cl (by omega) rfl (g_refuse (Zi := Zi) (q := q) (n := n) (D := D) (s := s19) (p := p) (c := c) (by omega) hz (by omega) hD hS19 hC hW23 7 (s19 2004) (by omega) (by omega)) ?_
    rintro _ H1 (hF | ⟨rfl, hY64⟩)
    · exact hF.elim
    · exact tt_ax rfl (Or.inr ⟨rfl, cX_mono (cX_trx (fk_rf hD) (show fr s s19 LXR from (fr_tr (fr_us (by decide) (fr_tr fr_rf f4 (by decide))) f22 (by decide))) hY64 (by decide)) (by omega)⟩)
