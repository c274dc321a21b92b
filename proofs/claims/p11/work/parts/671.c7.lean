/-! the class reads sections -/
set_option maxRecDepth 100000 in
set_option maxHeartbeats 4000000 in
theorem g_refuseMark {g : Nat → Int} {Zi : Nat → Option (Nat × (Nat → Int))} {d n q : Nat} {D : Nat → Nat × Nat} {s : Nat → Int} {p : Nat → Nat} {c : Nat → Nat → Int} (hd : 4 ≤ d) (hz : zk Zi) (hq : q + 8 ≤ 400000) (hD : wd n p) (hS : bS s) (hC : bC D c) (hW : wp q g n D p s)  : tt Zi d 23 (0, [some (.inr (.inl 17))], [], n, D, s, p, c) (fun R H => (False) ∨ (R = .inr 12 ∧ cX ((q + 1)) g s p c [] LXR H)) := by
  refine tt_k 5 (S' := (9, [some (.inr (.inl 17))], [.inr (.inl 20), .inl 3, .inr (.inl 20)], n, D, s, p, c)) rfl ?_
  refine tt_cl (by omega) rfl (g_openPlace (Zi := Zi) (q := q) (n := n) (D := D) (s := s) (p := p) (c := c) (by omega) hz (by omega) hD hS hC hW ) ?_
  rintro _ _ ⟨r1, rfl, rfl, b2, k3⟩
  show tt Zi d 23 (12, [some (.inr (.inl 17))], [.inl r1, .inl 3, .inr (.inl 20)], n, D, s, p, c) _
  replace k3 : r1 = (s 2001) - 1 := k3
  have b4 : 0 ≤ (s 2001) ∧ (s 2001) ≤ 100000 := hS 2001
  refine tt_cl (by omega) rfl (g_refuse (Zi := Zi) (q := q) (n := n) (D := D) (s := s) (p := p) (c := c) (by omega) hz (by omega) hD hS hC hW 3 r1 (by omega) (by omega)) ?_
  rintro _ H1 (hF | ⟨rfl, hY5⟩)
  · exact hF.elim
  · exact tt_ax rfl (Or.inr ⟨rfl, cX_mono (cX_trx (fk_rf hD) (show fr s s LXR from fr_rf) hY5 (by decide)) (by omega)⟩)
set_option maxRecDepth 100000 in
set_option maxHeartbeats 4000000 in
theorem g_checkLength {g : Nat → Int} {Zi : Nat → Option (Nat × (Nat → Int))} {d n q : Nat} {D : Nat → Nat × Nat} {s : Nat → Int} {p : Nat → Nat} {c : Nat → Nat → Int} (hd : 4 ≤ d) (hz : zk Zi) (hq : q + 8 ≤ 400000) (hD : wd n p) (hS : bS s) (hC : bC D c) (hW : wp q g n D p s) (ok : Int) (wh : Int) (b_ok : 0 ≤ ok ∧ ok ≤ 1) (b_wh : -1 ≤ wh ∧ wh ≤ 100000) : tt Zi d 26 (0, [some (.inr (.inl 17)), some (.inl ok), some (.inl wh)], [], n, D, s, p, c) (fun R H => (R = .inl none ∧ H = (n, D, s, p, c) ∧ (ok = 1)) ∨ (R = .inr 12 ∧ cX ((q + 1)) g s p c [] LXR H)) := by
  refine tt_k 1 (S' := (1, [some (.inr (.inl 17)), some (.inl ok), some (.inl wh)], [.inl ok], n, D, s, p, c)) rfl ?_
  refine tz_ne (x := ok) rfl rfl (by omega) (fun h1 => ?_) (fun h1 => ?_)
  · show tt Zi d 26 (13, [some (.inr (.inl 17)), some (.inl ok), some (.inl wh)], [], n, D, s, p, c) _
    exact tt_rtv rfl rfl (Or.inl ⟨rfl, rfl, by show ok = 1; omega⟩)
  · show tt Zi d 26 (4, [some (.inr (.inl 17)), some (.inl ok), some (.inl wh)], [], n, D, s, p, c) _
    refine tt_k 4 (S' := (10, [some (.inr (.inl 17)), some (.inl ok), some (.inl wh)], [.inl wh, .inl 4, .inr (.inl 20)], n, D, s, p, c)) rfl ?_
    refine tt_cl (by omega) rfl (g_refuse (Zi := Zi) (q := q) (n := n) (D := D) (s := s) (p := p) (c := c) (by omega) hz (by omega) hD hS hC hW 4 wh (by omega) (by omega)) ?_
    rintro _ H1 (hF | ⟨rfl, hY2⟩)
    · exact hF.elim
    · exact tt_ax rfl (Or.inr ⟨rfl, cX_mono (cX_trx (fk_rf hD) (show fr s s LXR from fr_rf) hY2 (by decide)) (by omega)⟩)
set_option maxRecDepth 100000 in
set_option maxHeartbeats 4000000 in
theorem g_checkContent {g : Nat → Int} {Zi : Nat → Option (Nat × (Nat → Int))} {d n q : Nat} {D : Nat → Nat × Nat} {s : Nat → Int} {p : Nat → Nat} {c : Nat → Nat → Int} (hd : 4 ≤ d) (hz : zk Zi) (hq : q + 8 ≤ 400000) (hD : wd n p) (hS : bS s) (hC : bC D c) (hW : wp q g n D p s) (ok : Int) (wh : Int) (b_ok : 0 ≤ ok ∧ ok ≤ 1) (b_wh : -1 ≤ wh ∧ wh ≤ 100000) : tt Zi d 82 (0, [some (.inr (.inl 17)), some (.inl ok), some (.inl wh)], [], n, D, s, p, c) (fun R H => (R = .inl none ∧ H = (n, D, s, p, c) ∧ (ok = 1)) ∨ (R = .inr 12 ∧ cX ((q + 1)) g s p c [] LXR H)) := by
  refine tt_k 1 (S' := (1, [some (.inr (.inl 17)), some (.inl ok), some (.inl wh)], [.inl ok], n, D, s, p, c)) rfl ?_
  refine tz_ne (x := ok) rfl rfl (by omega) (fun h1 => ?_) (fun h1 => ?_)
  · show tt Zi d 82 (13, [some (.inr (.inl 17)), some (.inl ok), some (.inl wh)], [], n, D, s, p, c) _
    exact tt_rtv rfl rfl (Or.inl ⟨rfl, rfl, by show ok = 1; omega⟩)
  · show tt Zi d 82 (4, [some (.inr (.inl 17)), some (.inl ok), some (.inl wh)], [], n, D, s, p, c) _
    refine tt_k 4 (S' := (10, [some (.inr (.inl 17)), some (.inl ok), some (.inl wh)], [.inl wh, .inl 5, .inr (.inl 20)], n, D, s, p, c)) rfl ?_
    refine tt_cl (by omega) rfl (g_refuse (Zi := Zi) (q := q) (n := n) (D := D) (s := s) (p := p) (c := c) (by omega) hz (by omega) hD hS hC hW 5 wh (by omega) (by omega)) ?_
    rintro _ H1 (hF | ⟨rfl, hY2⟩)
    · exact hF.elim
    · exact tt_ax rfl (Or.inr ⟨rfl, cX_mono (cX_trx (fk_rf hD) (show fr s s LXR from fr_rf) hY2 (by decide)) (by omega)⟩)
set_option maxRecDepth 100000 in
set_option maxHeartbeats 4000000 in
theorem g_readFree {g : Nat → Int} {Zi : Nat → Option (Nat × (Nat → Int))} {d n q : Nat} {D : Nat → Nat × Nat} {s : Nat → Int} {p : Nat → Nat} {c : Nat → Nat → Int} (hd : 6 ≤ d) (hz : zk Zi) (hq : q + 12 ≤ 400000) (hD : wd n p) (hS : bS s) (hC : bC D c) (hW : wp q g n D p s)  : tt Zi d 88 (0, [some (.inr (.inl 17)), none], [], n, D, s, p, c) (fun R H => (∃ (s' : Nat → Int), R = .inl none ∧ H = (n, D, s', p, c) ∧ bS s' ∧ wp q g n D p s' ∧ fr s s' [2001]) ∨ (R = .inr 12 ∧ cX ((q + 1)) g s p c [] LXR H)) := by
  refine tt_k 2 (S' := (4, [some (.inr (.inl 17)), none], [.inr (.inl 20)], n, D, s, p, c)) rfl ?_
  refine tt_cl (by omega) rfl (g_readTwo (Zi := Zi) (q := q) (n := n) (D := D) (s := s) (p := p) (c := c) (by omega) hz (by omega) hD hS hC hW ) ?_
  rintro _ H1 (⟨s1, r2, rfl, rfl, hS1, hW3, f4, b5, k6, k7⟩ | ⟨rfl, hY8⟩)
  rotate_left
  · exact tt_ax rfl (Or.inr ⟨rfl, cX_mono (cX_trx (fk_rf hD) (show fr s s LXR from fr_rf) hY8 (by decide)) (by omega)⟩)
  show tt Zi d 88 (7, [some (.inr (.inl 17)), none], [.inl r2], n, D, s1, p, c) _
  replace k6 : (s1 2001) = (s 2001) + 2 := k6
  replace k7 : (s1 2001) ≤ (s 601) := k7
  have b9 : 0 ≤ (s 2001) ∧ (s 2001) ≤ 100000 := hS 2001
  have b10 : 0 ≤ (s1 2001) ∧ (s1 2001) ≤ 100000 := hS1 2001
  have b11 : 0 ≤ (s 601) ∧ (s 601) ≤ 32768 := hS 601
  have e12 : s1 601 = (s 601) := (f4 601 (by decide))
  have b13 : 0 ≤ (s1 601) ∧ (s1 601) ≤ 32768 := hS1 601
  refine tt_k 4 (S' := (11, [some (.inr (.inl 17)), some (.inl r2)], [.inl 2, .inl r2, .inr (.inl 17)], n, D, s1, p, c)) rfl ?_
  have K15 : ∀ (j14 : Int) , (0 ≤ j14 ∧ j14 ≤ 1) → ((r2 < 2 ∧ j14 = 0) ∨ (2 ≤ r2 ∧ j14 = 1)) → tt Zi d 88 (19, [some (.inr (.inl 17)), some (.inl r2)], [.inl j14, .inr (.inl 17)], n, D, s1, p, c) (fun R H => (∃ (s' : Nat → Int), R = .inl none ∧ H = (n, D, s', p, c) ∧ bS s' ∧ wp q g n D p s' ∧ fr s s' [2001]) ∨ (R = .inr 12 ∧ cX ((q + 1)) g s p c [] LXR H)) := by
    intro j14 b17 hj16
    refine tt_k 2 (S' := (23, [some (.inr (.inl 17)), some (.inl r2)], [.inr (.inl 20), .inl j14, .inr (.inl 17)], n, D, s1, p, c)) rfl ?_
    refine tt_cl (by omega) rfl (g_openPlace (Zi := Zi) (q := q) (n := n) (D := D) (s := s1) (p := p) (c := c) (by omega) hz (by omega) hD hS1 hC hW3 ) ?_
    rintro _ _ ⟨r18, rfl, rfl, b19, k20⟩
    show tt Zi d 88 (26, [some (.inr (.inl 17)), some (.inl r2)], [.inl r18, .inl j14, .inr (.inl 17)], n, D, s1, p, c) _
    replace k20 : r18 = (s1 2001) - 1 := k20
    refine tt_k 2 (S' := (28, [some (.inr (.inl 17)), some (.inl r2)], [.inl (r18 - 1), .inl j14, .inr (.inl 17)], n, D, s1, p, c)) rfl ?_
    refine tt_cl (by omega) rfl (g_checkLength (Zi := Zi) (q := q) (n := n) (D := D) (s := s1) (p := p) (c := c) (by omega) hz (by omega) hD hS1 hC hW3 j14 (r18 - 1) (by omega) (by omega)) ?_
    rintro _ H1 (⟨rfl, rfl, k21⟩ | ⟨rfl, hY22⟩)
    rotate_left
    · exact tt_ax rfl (Or.inr ⟨rfl, cX_mono (cX_trx (fk_rf hD) (show fr s s1 LXR from (fr_tr fr_rf f4 (by decide))) hY22 (by decide)) (by omega)⟩)
    show tt Zi d 88 (31, [some (.inr (.inl 17)), some (.inl r2)], [], n, D, s1, p, c) _
    replace k21 : j14 = 1 := k21
    refine tt_k 5 (S' := (38, [some (.inr (.inl 17)), some (.inl r2)], [.inl (r2 - 2), .inr (.inl 20)], n, D, s1, p, c)) rfl ?_
    refine tt_cl (by omega) rfl (g_skip (Zi := Zi) (q := q) (n := n) (D := D) (s := s1) (p := p) (c := c) (by omega) hz (by omega) hD hS1 hC hW3 (r2 - 2) (by omega) (show (s1 2001) ≤ 32768 by omega)) ?_
    rintro _ _ ⟨s23, rfl, rfl, hS23, hW24, f25⟩
    show tt Zi d 88 (41, [some (.inr (.inl 17)), some (.inl r2)], [], n, D, s23, p, c) _
    have e26 : s23 601 = (s1 601) := (f25 601 (by decide))
    have b27 : 0 ≤ (s23 601) ∧ (s23 601) ≤ 32768 := hS23 601
    exact tt_rtv rfl rfl (Or.inl ⟨s23, rfl, rfl, hS23, hW24, (fr_tr (fr_tr fr_rf f4 (by decide)) f25 (by decide))⟩)
  refine tb_lt (x := r2) (y := 2) rfl rfl (by omega) (fun h28 => ?_) (fun h28 => ?_)
  · show tt Zi d 88 (18, [some (.inr (.inl 17)), some (.inl r2)], [.inr (.inl 17)], n, D, s1, p, c) _
    refine tt_k 1 (S' := (19, [some (.inr (.inl 17)), some (.inl r2)], [.inl 0, .inr (.inl 17)], n, D, s1, p, c)) rfl ?_
    exact K15 0  (by omega) (Or.inl ⟨h28, rfl⟩)
  · show tt Zi d 88 (14, [some (.inr (.inl 17)), some (.inl r2)], [.inr (.inl 17)], n, D, s1, p, c) _
    refine tt_k 2 (S' := (19, [some (.inr (.inl 17)), some (.inl r2)], [.inl 1, .inr (.inl 17)], n, D, s1, p, c)) rfl ?_
    exact K15 1  (by omega) (Or.inr (⟨h28, rfl⟩))
set_option maxRecDepth 100000 in
set_option maxHeartbeats 4000000 in
theorem g_readName_L15 {g : Nat → Int} {Zi : Nat → Option (Nat × (Nat → Int))} {d n q : Nat} {D : Nat → Nat × Nat} {s : Nat → Int} {p : Nat → Nat} {c : Nat → Nat → Int}  {Q : mi_Rs → mi_H → Prop} (hd : 5 ≤ d) (hz : zk Zi) (hq : q + 10 ≤ 400001) (hD : wd n p) (hS : bS s) (hC : bC D c) (hW : wp q g n D p s) (pn : Int) (b_pn : 0 ≤ pn ∧ pn ≤ 2) (hX12 : ∀ H, cX (q + 1) g s p c [19] LXR H → Q (.inr 12) H)
  (hK : ∀ (i : Int) (b_i : 0 ≤ i ∧ i ≤ 2) (i0 : i ≤ pn), (True) → tt Zi d 86 (57, [some (.inr (.inl 17)), some (.inl pn), some (.inl i)], [], n, D, s, p, c) Q) :
  ∀ (m : Nat) (i : Int) (b_i : 0 ≤ i ∧ i ≤ 2) (i0 : i ≤ pn), (pn - i).toNat < m → tt Zi d 86 (15, [some (.inr (.inl 17)), some (.inl pn), some (.inl i)], [], n, D, s, p, c) Q := by
  intro m
  induction m with
  | zero => intro i b_i i0 hm; exact absurd hm (by omega)
  | succ m ih =>
    intro i b_i i0 hm
    refine tt_k 2 (S' := (17, [some (.inr (.inl 17)), some (.inl pn), some (.inl i)], [.inl pn, .inl i], n, D, s, p, c)) rfl ?_
    refine tb_ge (x := i) (y := pn) rfl rfl (by omega) (fun h1 => ?_) (fun h1 => ?_)
    · show tt Zi d 86 (57, [some (.inr (.inl 17)), some (.inl pn), some (.inl i)], [], n, D, s, p, c) _
      exact hK i (by omega) (show i ≤ pn by omega) trivial
    · show tt Zi d 86 (20, [some (.inr (.inl 17)), some (.inl pn), some (.inl i)], [], n, D, s, p, c) _
      refine tt_k 4 (S' := (26, [some (.inr (.inl 17)), some (.inl pn), some (.inl i)], [.inl i, .inr (.inl 19), .inr (.inl 17)], n, D, s, p, c)) rfl ?_
      refine tt_ilb (i := i) (m := 3) (lo := -2147483648) (hi := 2147483647) rfl rfl (by omega) hC ⟨rfl, rfl⟩ ?_
      intro v2 b3 hvv2
      show tt Zi d 86 (27, [some (.inr (.inl 17)), some (.inl pn), some (.inl i)], [.inl v2, .inr (.inl 17)], n, D, s, p, c) _
      refine tt_k 3 (S' := (32, [some (.inr (.inl 17)), some (.inl pn), some (.inl i)], [.inl pn, .inr (.inl 19), .inl v2, .inr (.inl 17)], n, D, s, p, c)) rfl ?_
      refine tt_ilb (i := pn) (m := 3) (lo := -2147483648) (hi := 2147483647) rfl rfl (by omega) hC ⟨rfl, rfl⟩ ?_
      intro v4 b5 hvv4
      show tt Zi d 86 (33, [some (.inr (.inl 17)), some (.inl pn), some (.inl i)], [.inl v4, .inl v2, .inr (.inl 17)], n, D, s, p, c) _
      have K7 : ∀ (j6 : Int) , (0 ≤ j6 ∧ j6 ≤ 1) → (True) → tt Zi d 86 (41, [some (.inr (.inl 17)), some (.inl pn), some (.inl i)], [.inl j6, .inr (.inl 17)], n, D, s, p, c) Q := by
        intro j6 b9 hj8
        refine tt_k 2 (S' := (45, [some (.inr (.inl 17)), some (.inl pn), some (.inl i)], [.inr (.inl 20), .inl j6, .inr (.inl 17)], n, D, s, p, c)) rfl ?_
        refine tt_cl (by omega) rfl (g_openPlace (Zi := Zi) (q := q) (n := n) (D := D) (s := s) (p := p) (c := c) (by omega) hz (by omega) hD hS hC hW ) ?_
        rintro _ _ ⟨r10, rfl, rfl, b11, k12⟩
        show tt Zi d 86 (48, [some (.inr (.inl 17)), some (.inl pn), some (.inl i)], [.inl r10, .inl j6, .inr (.inl 17)], n, D, s, p, c) _
        replace k12 : r10 = (s 2001) - 1 := k12
        have b13 : 0 ≤ (s 2001) ∧ (s 2001) ≤ 100000 := hS 2001
        refine tt_cl (by omega) rfl (g_checkContent (Zi := Zi) (q := q) (n := n) (D := D) (s := s) (p := p) (c := c) (by omega) hz (by omega) hD hS hC hW j6 r10 (by omega) (by omega)) ?_
        rintro _ H1 (⟨rfl, rfl, k14⟩ | ⟨rfl, hY15⟩)
        rotate_left
        · exact tt_ax rfl (hX12 _ (cX_mono (cX_trx (fk_rf hD) (show fr s s LXR from fr_rf) hY15 (by decide)) (by omega)))
        show tt Zi d 86 (51, [some (.inr (.inl 17)), some (.inl pn), some (.inl i)], [], n, D, s, p, c) _
        replace k14 : j6 = 1 := k14
        refine tt_k 2 (S' := (15, [some (.inr (.inl 17)), some (.inl pn), some (.inl (i + 1))], [], n, D, s, p, c)) rfl ?_
        exact ih (i + 1) (by omega) (show (i + 1) ≤ pn by omega) (show (pn - (i + 1)).toNat < m by omega)
      refine tb_eq (x := v2) (y := v4) rfl rfl (by omega) (fun h16 => ?_) (fun h16 => ?_)
      · show tt Zi d 86 (40, [some (.inr (.inl 17)), some (.inl pn), some (.inl i)], [.inr (.inl 17)], n, D, s, p, c) _
        refine tt_k 1 (S' := (41, [some (.inr (.inl 17)), some (.inl pn), some (.inl i)], [.inl 0, .inr (.inl 17)], n, D, s, p, c)) rfl ?_
        exact K7 0  (by omega) (trivial)
      · show tt Zi d 86 (36, [some (.inr (.inl 17)), some (.inl pn), some (.inl i)], [.inr (.inl 17)], n, D, s, p, c) _
        refine tt_k 2 (S' := (41, [some (.inr (.inl 17)), some (.inl pn), some (.inl i)], [.inl 1, .inr (.inl 17)], n, D, s, p, c)) rfl ?_
        exact K7 1  (by omega) (trivial)
set_option maxRecDepth 100000 in
set_option maxHeartbeats 4000000 in
theorem g_readName {g : Nat → Int} {Zi : Nat → Option (Nat × (Nat → Int))} {d n q : Nat} {D : Nat → Nat × Nat} {s : Nat → Int} {p : Nat → Nat} {c : Nat → Nat → Int} (hd : 5 ≤ d) (hz : zk Zi) (hq : q + 10 ≤ 400000) (hD : wd n p) (hS : bS s) (hC : bC D c) (hW : wp q g n D p s) (pn : Int) (b_pn : 0 ≤ pn ∧ pn ≤ 2) : tt Zi d 86 (0, [some (.inr (.inl 17)), some (.inl pn), none], [], n, D, s, p, c) (fun R H => (∃ (s' : Nat → Int) (c' : Nat → Nat → Int), R = .inl none ∧ H = (n, D, s', p, c') ∧ bS s' ∧ bC D c' ∧ wp q g n D p s' ∧ fr s s' [2001] ∧ fk p c n p c' [19] ∧ (1 ≤ s' 2001 ∧ s' 2001 ≤ s 601)) ∨ (R = .inr 12 ∧ cX ((q + 1)) g s p c [19] LXR H)) := by
  refine tt_k 5 (S' := (9, [some (.inr (.inl 17)), some (.inl pn), none], [.inr (.inl 20), .inl pn, .inr (.inl 19)], n, D, s, p, c)) rfl ?_
  refine tt_cl (by omega) rfl (g_readByte (Zi := Zi) (q := q) (n := n) (D := D) (s := s) (p := p) (c := c) (by omega) hz (by omega) hD hS hC hW ) ?_
  rintro _ H1 (⟨s1, r2, rfl, rfl, hS1, hW3, f4, b5, k6, k7⟩ | ⟨rfl, hY8⟩)
  rotate_left
  · exact tt_ax rfl (Or.inr ⟨rfl, cX_mono (cX_trx (fk_rf hD) (show fr s s LXR from fr_rf) hY8 (by decide)) (by omega)⟩)
  show tt Zi d 86 (12, [some (.inr (.inl 17)), some (.inl pn), none], [.inl r2, .inl pn, .inr (.inl 19)], n, D, s1, p, c) _
  replace k6 : (s1 2001) = (s 2001) + 1 := k6
  replace k7 : (s1 2001) ≤ (s 601) := k7
  have b9 : 0 ≤ (s 2001) ∧ (s 2001) ≤ 100000 := hS 2001
  have b10 : 0 ≤ (s1 2001) ∧ (s1 2001) ≤ 100000 := hS1 2001
  have b11 : 0 ≤ (s 601) ∧ (s 601) ≤ 32768 := hS 601
  have e12 : s1 601 = (s 601) := (f4 601 (by decide))
  have b13 : 0 ≤ (s1 601) ∧ (s1 601) ≤ 32768 := hS1 601
  refine tt_isb (i := pn) (m := 3) (lo := -2147483648) (hi := 2147483647) (x := r2) rfl rfl (by omega) hC ⟨rfl, rfl⟩ (by omega) ?_
  intro c14 hC14 ec14
  show tt Zi d 86 (13, [some (.inr (.inl 17)), some (.inl pn), none], [], n, D, s1, p, c14) _
  have FK15 : fk p c n p c14 [19] := fk_st (k := 19) (fk_rf hD) ec14 (by decide) rfl
  refine tt_k 2 (S' := (15, [some (.inr (.inl 17)), some (.inl pn), some (.inl 0)], [], n, D, s1, p, c14)) rfl ?_
  refine g_readName_L15 (Zi := Zi) (q := q) (n := n) (D := D) (s := s1) (p := p) (c := c14) hd hz (by omega) FK15.1 hS1 hC14 hW3  pn (by omega)  (fun H h => (Or.inr ⟨rfl, cX_mono (cX_trx FK15 (show fr s s1 LXR from (fr_tr fr_rf f4 (by decide))) h (by decide)) (by omega)⟩)) ?_ _ 0 (by omega) (show 0 ≤ pn by omega) (Nat.lt_succ_self _)
  intro x16 b17 i18 hx19
  show tt Zi d 86 (57, [some (.inr (.inl 17)), some (.inl pn), some (.inl x16)], [], n, D, s1, p, c14) _
  replace i18 : x16 ≤ pn := i18
  exact tt_rtv rfl rfl (Or.inl ⟨s1, c14, rfl, rfl, hS1, hC14, hW3, (fr_tr fr_rf f4 (by decide)), FK15, by show 1 ≤ (s1 2001) ∧ (s1 2001) ≤ s 601; omega⟩)
set_option maxRecDepth 100000 in
set_option maxHeartbeats 4000000 in
theorem g_readMeasures_L42 {g : Nat → Int} {Zi : Nat → Option (Nat × (Nat → Int))} {d n q : Nat} {D : Nat → Nat × Nat} {s : Nat → Int} {p : Nat → Nat} {c : Nat → Nat → Int} {o_1 : Option mi_V} {Q : mi_Rs → mi_H → Prop} (hd : 6 ≤ d) (hz : zk Zi) (hq : q + 12 ≤ 400001) (hD : wd n p) (hS : bS s) (hC : bC D c) (hW : wp q g n D p s) (hX12 : ∀ H, cX (q + 1) g s p c [18] LXR H → Q (.inr 12) H)
  (hK : ∀ (i : Int) (s0 : Nat → Int) (c0 : Nat → Nat → Int) (b_i : 0 ≤ i ∧ i ≤ 5) (hS0 : bS s0) (hF0 : fr s s0 [2001]) (hC0 : bC D c0) (hW0 : wp q g n D p s0) (hK0 : fk p c n p c0 [18]), (True) → tt Zi d 87 (66, [some (.inr (.inl 17)), o_1, some (.inl i)], [], n, D, s0, p, c0) Q) :
  ∀ (m : Nat) (i : Int) (s0 : Nat → Int) (c0 : Nat → Nat → Int) (b_i : 0 ≤ i ∧ i ≤ 5) (hS0 : bS s0) (hF0 : fr s s0 [2001]) (hC0 : bC D c0) (hW0 : wp q g n D p s0) (hK0 : fk p c n p c0 [18]), (5 - i).toNat < m → tt Zi d 87 (42, [some (.inr (.inl 17)), o_1, some (.inl i)], [], n, D, s0, p, c0) Q := by
  intro m
  induction m with
  | zero => intro i s0 c0 b_i hS0 hF0 hC0 hW0 hK0 hm; exact absurd hm (by omega)
  | succ m ih =>
    intro i s0 c0 b_i hS0 hF0 hC0 hW0 hK0 hm
    have e1 : s0 601 = s 601 := hF0 601 (by decide)
    have b2 : 0 ≤ (s0 601) ∧ (s0 601) ≤ 32768 := hS0 601
    have b3 : 0 ≤ (s 601) ∧ (s 601) ≤ 32768 := hS 601
    refine tt_k 2 (S' := (44, [some (.inr (.inl 17)), o_1, some (.inl i)], [.inl 5, .inl i], n, D, s0, p, c0)) rfl ?_
    refine tb_ge (x := i) (y := 5) rfl rfl (by omega) (fun h4 => ?_) (fun h4 => ?_)
    · show tt Zi d 87 (66, [some (.inr (.inl 17)), o_1, some (.inl i)], [], n, D, s0, p, c0) _
      exact hK i s0 c0 (by omega) hS0 hF0 hC0 hW0 hK0 trivial
    · show tt Zi d 87 (47, [some (.inr (.inl 17)), o_1, some (.inl i)], [], n, D, s0, p, c0) _
      refine tt_k 5 (S' := (56, [some (.inr (.inl 17)), o_1, some (.inl i)], [.inr (.inl 20), .inl i, .inr (.inl 18)], n, D, s0, p, c0)) rfl ?_
      refine tt_cl (by omega) rfl (g_readTwo (Zi := Zi) (q := q) (n := n) (D := D) (s := s0) (p := p) (c := c0) (by omega) hz (by omega) hK0.1 hS0 hC0 hW0 ) ?_
      rintro _ H1 (⟨s5, r6, rfl, rfl, hS5, hW7, f8, b9, k10, k11⟩ | ⟨rfl, hY12⟩)
      rotate_left
      · exact tt_ax rfl (hX12 _ (cX_mono (cX_trx hK0 (fr_wk (show fr s s0 [2001] from hF0) (by decide)) hY12 (by decide)) (by omega)))
      show tt Zi d 87 (59, [some (.inr (.inl 17)), o_1, some (.inl i)], [.inl r6, .inl i, .inr (.inl 18)], n, D, s5, p, c0) _
      replace k10 : (s5 2001) = (s0 2001) + 2 := k10
      replace k11 : (s5 2001) ≤ (s0 601) := k11
      have b13 : 0 ≤ (s0 2001) ∧ (s0 2001) ≤ 100000 := hS0 2001
      have b14 : 0 ≤ (s5 2001) ∧ (s5 2001) ≤ 100000 := hS5 2001
      have e15 : s5 601 = (s0 601) := (f8 601 (by decide))
      have b16 : 0 ≤ (s5 601) ∧ (s5 601) ≤ 32768 := hS5 601
      refine tt_isb (i := i) (m := 5) (lo := 0) (hi := 65535) (x := r6) rfl rfl (by omega) hC0 ⟨rfl, rfl⟩ (by omega) ?_
      intro c17 hC17 ec17
      show tt Zi d 87 (60, [some (.inr (.inl 17)), o_1, some (.inl i)], [], n, D, s5, p, c17) _
      have FK18 : fk p c n p c17 [18] := fk_st (k := 18) hK0 ec17 (by decide) rfl
      refine tt_k 2 (S' := (42, [some (.inr (.inl 17)), o_1, some (.inl (i + 1))], [], n, D, s5, p, c17)) rfl ?_
      exact ih (i + 1) s5 c17 (by omega) hS5 (fr_tr hF0 f8 (by decide)) hC17 hW7 FK18 (show (5 - (i + 1)).toNat < m by omega)
set_option maxRecDepth 100000 in
set_option maxHeartbeats 4000000 in
theorem g_readMeasures {g : Nat → Int} {Zi : Nat → Option (Nat × (Nat → Int))} {d n q : Nat} {D : Nat → Nat × Nat} {s : Nat → Int} {p : Nat → Nat} {c : Nat → Nat → Int} (hd : 6 ≤ d) (hz : zk Zi) (hq : q + 12 ≤ 400000) (hD : wd n p) (hS : bS s) (hC : bC D c) (hW : wp q g n D p s)  : tt Zi d 87 (0, [some (.inr (.inl 17)), none, none], [], n, D, s, p, c) (fun R H => (∃ (s' : Nat → Int) (c' : Nat → Nat → Int), R = .inl none ∧ H = (n, D, s', p, c') ∧ bS s' ∧ bC D c' ∧ wp q g n D p s' ∧ fr s s' [2001] ∧ fk p c n p c' [18]) ∨ (R = .inr 12 ∧ cX ((q + 1)) g s p c [18] LXR H)) := by
  refine tt_k 2 (S' := (4, [some (.inr (.inl 17)), none, none], [.inr (.inl 20)], n, D, s, p, c)) rfl ?_
  refine tt_cl (by omega) rfl (g_readTwo (Zi := Zi) (q := q) (n := n) (D := D) (s := s) (p := p) (c := c) (by omega) hz (by omega) hD hS hC hW ) ?_
  rintro _ H1 (⟨s1, r2, rfl, rfl, hS1, hW3, f4, b5, k6, k7⟩ | ⟨rfl, hY8⟩)
  rotate_left
  · exact tt_ax rfl (Or.inr ⟨rfl, cX_mono (cX_trx (fk_rf hD) (show fr s s LXR from fr_rf) hY8 (by decide)) (by omega)⟩)
  show tt Zi d 87 (7, [some (.inr (.inl 17)), none, none], [.inl r2], n, D, s1, p, c) _
  replace k6 : (s1 2001) = (s 2001) + 2 := k6
  replace k7 : (s1 2001) ≤ (s 601) := k7
  have b9 : 0 ≤ (s 2001) ∧ (s 2001) ≤ 100000 := hS 2001
  have b10 : 0 ≤ (s1 2001) ∧ (s1 2001) ≤ 100000 := hS1 2001
  have b11 : 0 ≤ (s 601) ∧ (s 601) ≤ 32768 := hS 601
  have e12 : s1 601 = (s 601) := (f4 601 (by decide))
  have b13 : 0 ≤ (s1 601) ∧ (s1 601) ≤ 32768 := hS1 601
  refine tt_k 4 (S' := (12, [some (.inr (.inl 17)), some (.inl r2), none], [.inl 13, .inl r2, .inr (.inl 17)], n, D, s1, p, c)) rfl ?_
  have K15 : ∀ (j14 : Int) , (0 ≤ j14 ∧ j14 ≤ 1) → ((r2 ≠ 13 ∧ j14 = 0) ∨ (r2 = 13 ∧ j14 = 1)) → tt Zi d 87 (20, [some (.inr (.inl 17)), some (.inl r2), none], [.inl j14, .inr (.inl 17)], n, D, s1, p, c) (fun R H => (∃ (s' : Nat → Int) (c' : Nat → Nat → Int), R = .inl none ∧ H = (n, D, s', p, c') ∧ bS s' ∧ bC D c' ∧ wp q g n D p s' ∧ fr s s' [2001] ∧ fk p c n p c' [18]) ∨ (R = .inr 12 ∧ cX ((q + 1)) g s p c [18] LXR H)) := by
    intro j14 b17 hj16
    refine tt_k 2 (S' := (24, [some (.inr (.inl 17)), some (.inl r2), none], [.inr (.inl 20), .inl j14, .inr (.inl 17)], n, D, s1, p, c)) rfl ?_
    refine tt_cl (by omega) rfl (g_openPlace (Zi := Zi) (q := q) (n := n) (D := D) (s := s1) (p := p) (c := c) (by omega) hz (by omega) hD hS1 hC hW3 ) ?_
    rintro _ _ ⟨r18, rfl, rfl, b19, k20⟩
    show tt Zi d 87 (27, [some (.inr (.inl 17)), some (.inl r2), none], [.inl r18, .inl j14, .inr (.inl 17)], n, D, s1, p, c) _
    replace k20 : r18 = (s1 2001) - 1 := k20
    refine tt_k 2 (S' := (29, [some (.inr (.inl 17)), some (.inl r2), none], [.inl (r18 - 1), .inl j14, .inr (.inl 17)], n, D, s1, p, c)) rfl ?_
    refine tt_cl (by omega) rfl (g_checkLength (Zi := Zi) (q := q) (n := n) (D := D) (s := s1) (p := p) (c := c) (by omega) hz (by omega) hD hS1 hC hW3 j14 (r18 - 1) (by omega) (by omega)) ?_
    rintro _ H1 (⟨rfl, rfl, k21⟩ | ⟨rfl, hY22⟩)
    rotate_left
    · exact tt_ax rfl (Or.inr ⟨rfl, cX_mono (cX_trx (fk_rf hD) (show fr s s1 LXR from (fr_tr fr_rf f4 (by decide))) hY22 (by decide)) (by omega)⟩)
    show tt Zi d 87 (32, [some (.inr (.inl 17)), some (.inl r2), none], [], n, D, s1, p, c) _
    replace k21 : j14 = 1 := k21
    refine tt_k 3 (S' := (37, [some (.inr (.inl 17)), some (.inl r2), none], [.inl 1, .inr (.inl 20)], n, D, s1, p, c)) rfl ?_
    refine tt_cl (by omega) rfl (g_expect (Zi := Zi) (q := q) (n := n) (D := D) (s := s1) (p := p) (c := c) (by omega) hz (by omega) hD hS1 hC hW3 1 (by omega)) ?_
    rintro _ H1 (⟨s23, rfl, rfl, hS23, hW24, f25, k26, k27⟩ | ⟨rfl, hY28⟩)
    rotate_left
    · exact tt_ax rfl (Or.inr ⟨rfl, cX_mono (cX_trx (fk_rf hD) (show fr s s1 LXR from (fr_tr fr_rf f4 (by decide))) hY28 (by decide)) (by omega)⟩)
    show tt Zi d 87 (40, [some (.inr (.inl 17)), some (.inl r2), none], [], n, D, s23, p, c) _
    replace k26 : (s23 2001) = (s1 2001) + 1 := k26
    replace k27 : (s23 2001) ≤ (s1 601) := k27
    have b29 : 0 ≤ (s23 2001) ∧ (s23 2001) ≤ 100000 := hS23 2001
    have e30 : s23 601 = (s1 601) := (f25 601 (by decide))
    have b31 : 0 ≤ (s23 601) ∧ (s23 601) ≤ 32768 := hS23 601
    refine tt_k 2 (S' := (42, [some (.inr (.inl 17)), some (.inl r2), some (.inl 0)], [], n, D, s23, p, c)) rfl ?_
    refine g_readMeasures_L42 (Zi := Zi) (q := q) (n := n) (D := D) (s := s23) (p := p) (c := c) hd hz (by omega) hD hS23 hC hW24     (fun H h => (Or.inr ⟨rfl, cX_mono (cX_trx (fk_rf hD) (show fr s s23 LXR from (fr_tr (fr_tr fr_rf f4 (by decide)) f25 (by decide))) h (by decide)) (by omega)⟩)) ?_ _ 0 s23 c (by omega) hS23 fr_rf hC hW24 (fk_rf hD) (Nat.lt_succ_self _)
    intro x32 s33 c34 b35 hS33 f36 hC34 hW37 kf38 hx39
    show tt Zi d 87 (66, [some (.inr (.inl 17)), some (.inl r2), some (.inl x32)], [], n, D, s33, p, c34) _
    have FK40 : fk p c n p c34 [18] := fk_tr (fk_rf hD) kf38 (by decide)
    have e41 : s33 601 = (s23 601) := (f36 601 (by decide))
    have b42 : 0 ≤ (s33 601) ∧ (s33 601) ≤ 32768 := hS33 601
    exact tt_rtv rfl rfl (Or.inl ⟨s33, c34, rfl, rfl, hS33, hC34, hW37, (fr_tr (fr_tr (fr_tr fr_rf f4 (by decide)) f25 (by decide)) f36 (by decide)), FK40⟩)
  refine tb_ne (x := r2) (y := 13) rfl rfl (by omega) (fun h43 => ?_) (fun h43 => ?_)
  · show tt Zi d 87 (19, [some (.inr (.inl 17)), some (.inl r2), none], [.inr (.inl 17)], n, D, s1, p, c) _
    refine tt_k 1 (S' := (20, [some (.inr (.inl 17)), some (.inl r2), none], [.inl 0, .inr (.inl 17)], n, D, s1, p, c)) rfl ?_
    exact K15 0  (by omega) (Or.inl ⟨h43, rfl⟩)
  · show tt Zi d 87 (15, [some (.inr (.inl 17)), some (.inl r2), none], [.inr (.inl 17)], n, D, s1, p, c) _
    refine tt_k 2 (S' := (20, [some (.inr (.inl 17)), some (.inl r2), none], [.inl 1, .inr (.inl 17)], n, D, s1, p, c)) rfl ?_
    exact K15 1  (by omega) (Or.inr (⟨h43, rfl⟩))
