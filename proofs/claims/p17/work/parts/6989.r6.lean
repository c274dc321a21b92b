/-! the class reads sections, exactly -/
set_option maxRecDepth 100000 in
set_option maxHeartbeats 4000000 in
theorem e_refuseMark {g : Nat → Int} {Zi : Nat → Option (Nat × (Nat → Int))} {d n q : Nat} {D : Nat → Nat × Nat} {s : Nat → Int} {p : Nat → Nat} {c : Nat → Nat → Int} (hd : 4 ≤ d) (hz : zk Zi) (hq : q + 8 ≤ 400000) (hD : wd n p) (hS : bS s) (hC : bC D c) (hW : wp q g n D p s)  : tt Zi d 23 (0, [some (.inr (.inl 17))], [], n, D, s, p, c) (fun R H => (False) ∨ (R = .inr 12 ∧ cXp ((q + 1)) g s p c [] [800, 801, 802, 803, 804, 805, 806, 807, 808, 809, 902, 1705, 1706, 2001, 2002, 2003, 2004, 2005, 2006, 2106, 2107, 2108, 2109, 2110, 2111, 2112, 2113, 2114, 2115, 2116] H)) := by
  refine tt_k 5 (S' := (9, [some (.inr (.inl 17))], [.inr (.inl 20), .inl 3, .inr (.inl 20)], n, D, s, p, c)) rfl ?_
  refine tt_cl (by omega) rfl (g_openPlace (Zi := Zi) (q := q) (n := n) (D := D) (s := s) (p := p) (c := c) (by omega) hz (by omega) hD hS hC hW ) ?_
  rintro _ _ ⟨r1, rfl, rfl, b2, k3⟩
  show tt Zi d 23 (12, [some (.inr (.inl 17))], [.inl r1, .inl 3, .inr (.inl 20)], n, D, s, p, c) _
  replace k3 : r1 = (s 2001) - 1 := k3
  have b4 : 0 ≤ (s 2001) ∧ (s 2001) ≤ 100000 := hS 2001
  refine tt_cl (by omega) rfl (e_refuse (Zi := Zi) (q := q) (n := n) (D := D) (s := s) (p := p) (c := c) (by omega) hz (by omega) hD hS hC hW 3 r1 (by omega) (by omega)) ?_
  rintro _ H1 (hF | ⟨rfl, hY5⟩)
  · exact hF.elim
  · exact tt_ax rfl (Or.inr ⟨rfl, cXp_mono (cXp_tr (fk_rf hD) (show fr s s [800, 801, 802, 803, 804, 805, 806, 807, 808, 809, 902, 1705, 1706, 2001, 2002, 2003, 2004, 2005, 2006, 2106, 2107, 2108, 2109, 2110, 2111, 2112, 2113, 2114, 2115, 2116] from fr_rf) ((frp_rf : frp p p []) 8 (by decide)) hY5 (by decide) (by decide)) (by omega)⟩)
set_option maxRecDepth 100000 in
set_option maxHeartbeats 4000000 in
theorem e_checkLength {g : Nat → Int} {Zi : Nat → Option (Nat × (Nat → Int))} {d n q : Nat} {D : Nat → Nat × Nat} {s : Nat → Int} {p : Nat → Nat} {c : Nat → Nat → Int} (hd : 4 ≤ d) (hz : zk Zi) (hq : q + 8 ≤ 400000) (hD : wd n p) (hS : bS s) (hC : bC D c) (hW : wp q g n D p s) (ok : Int) (wh : Int) (b_ok : 0 ≤ ok ∧ ok ≤ 1) (b_wh : -1 ≤ wh ∧ wh ≤ 100000) : tt Zi d 26 (0, [some (.inr (.inl 17)), some (.inl ok), some (.inl wh)], [], n, D, s, p, c) (fun R H => (R = .inl none ∧ H = (n, D, s, p, c) ∧ (ok = 1)) ∨ (R = .inr 12 ∧ cXp ((q + 1)) g s p c [] [800, 801, 802, 803, 804, 805, 806, 807, 808, 809, 902, 1705, 1706, 2001, 2002, 2003, 2004, 2005, 2006, 2106, 2107, 2108, 2109, 2110, 2111, 2112, 2113, 2114, 2115, 2116] H ∧ (ok = 0))) := by
  refine tt_k 1 (S' := (1, [some (.inr (.inl 17)), some (.inl ok), some (.inl wh)], [.inl ok], n, D, s, p, c)) rfl ?_
  refine tz_ne (x := ok) rfl rfl (by omega) (fun h1 => ?_) (fun h1 => ?_)
  · show tt Zi d 26 (13, [some (.inr (.inl 17)), some (.inl ok), some (.inl wh)], [], n, D, s, p, c) _
    exact tt_rtv rfl rfl (Or.inl ⟨rfl, rfl, by show ok = 1; omega⟩)
  · show tt Zi d 26 (4, [some (.inr (.inl 17)), some (.inl ok), some (.inl wh)], [], n, D, s, p, c) _
    refine tt_k 4 (S' := (10, [some (.inr (.inl 17)), some (.inl ok), some (.inl wh)], [.inl wh, .inl 4, .inr (.inl 20)], n, D, s, p, c)) rfl ?_
    refine tt_cl (by omega) rfl (e_refuse (Zi := Zi) (q := q) (n := n) (D := D) (s := s) (p := p) (c := c) (by omega) hz (by omega) hD hS hC hW 4 wh (by omega) (by omega)) ?_
    rintro _ H1 (hF | ⟨rfl, hY2⟩)
    · exact hF.elim
    · exact tt_ax rfl (Or.inr ⟨rfl, cXp_mono (cXp_tr (fk_rf hD) (show fr s s [800, 801, 802, 803, 804, 805, 806, 807, 808, 809, 902, 1705, 1706, 2001, 2002, 2003, 2004, 2005, 2006, 2106, 2107, 2108, 2109, 2110, 2111, 2112, 2113, 2114, 2115, 2116] from fr_rf) ((frp_rf : frp p p []) 8 (by decide)) hY2 (by decide) (by decide)) (by omega), (by omega)⟩)
set_option maxRecDepth 100000 in
set_option maxHeartbeats 4000000 in
theorem e_checkContent {g : Nat → Int} {Zi : Nat → Option (Nat × (Nat → Int))} {d n q : Nat} {D : Nat → Nat × Nat} {s : Nat → Int} {p : Nat → Nat} {c : Nat → Nat → Int} (hd : 4 ≤ d) (hz : zk Zi) (hq : q + 8 ≤ 400000) (hD : wd n p) (hS : bS s) (hC : bC D c) (hW : wp q g n D p s) (ok : Int) (wh : Int) (b_ok : 0 ≤ ok ∧ ok ≤ 1) (b_wh : -1 ≤ wh ∧ wh ≤ 100000) : tt Zi d 82 (0, [some (.inr (.inl 17)), some (.inl ok), some (.inl wh)], [], n, D, s, p, c) (fun R H => (R = .inl none ∧ H = (n, D, s, p, c) ∧ (ok = 1)) ∨ (R = .inr 12 ∧ cXp ((q + 1)) g s p c [] [800, 801, 802, 803, 804, 805, 806, 807, 808, 809, 902, 1705, 1706, 2001, 2002, 2003, 2004, 2005, 2006, 2106, 2107, 2108, 2109, 2110, 2111, 2112, 2113, 2114, 2115, 2116] H ∧ (ok = 0))) := by
  refine tt_k 1 (S' := (1, [some (.inr (.inl 17)), some (.inl ok), some (.inl wh)], [.inl ok], n, D, s, p, c)) rfl ?_
  refine tz_ne (x := ok) rfl rfl (by omega) (fun h1 => ?_) (fun h1 => ?_)
  · show tt Zi d 82 (13, [some (.inr (.inl 17)), some (.inl ok), some (.inl wh)], [], n, D, s, p, c) _
    exact tt_rtv rfl rfl (Or.inl ⟨rfl, rfl, by show ok = 1; omega⟩)
  · show tt Zi d 82 (4, [some (.inr (.inl 17)), some (.inl ok), some (.inl wh)], [], n, D, s, p, c) _
    refine tt_k 4 (S' := (10, [some (.inr (.inl 17)), some (.inl ok), some (.inl wh)], [.inl wh, .inl 5, .inr (.inl 20)], n, D, s, p, c)) rfl ?_
    refine tt_cl (by omega) rfl (e_refuse (Zi := Zi) (q := q) (n := n) (D := D) (s := s) (p := p) (c := c) (by omega) hz (by omega) hD hS hC hW 5 wh (by omega) (by omega)) ?_
    rintro _ H1 (hF | ⟨rfl, hY2⟩)
    · exact hF.elim
    · exact tt_ax rfl (Or.inr ⟨rfl, cXp_mono (cXp_tr (fk_rf hD) (show fr s s [800, 801, 802, 803, 804, 805, 806, 807, 808, 809, 902, 1705, 1706, 2001, 2002, 2003, 2004, 2005, 2006, 2106, 2107, 2108, 2109, 2110, 2111, 2112, 2113, 2114, 2115, 2116] from fr_rf) ((frp_rf : frp p p []) 8 (by decide)) hY2 (by decide) (by decide)) (by omega), (by omega)⟩)
set_option maxRecDepth 100000 in
set_option maxHeartbeats 4000000 in
theorem e_readFree {g : Nat → Int} {Zi : Nat → Option (Nat × (Nat → Int))} {d n q : Nat} {D : Nat → Nat × Nat} {s : Nat → Int} {p : Nat → Nat} {c : Nat → Nat → Int} (hd : 6 ≤ d) (hz : zk Zi) (hq : q + 12 ≤ 400000) (hD : wd n p) (hS : bS s) (hC : bC D c) (hW : wp q g n D p s) (A : TN) (hp0 : tpl A (s 601) (c (p 600))) : tt Zi d 88 (0, [some (.inr (.inl 17)), none], [], n, D, s, p, c) (fun R H => (∃ (s' : Nat → Int), R = .inl none ∧ H = (n, D, s', p, c) ∧ bS s' ∧ wp q g n D p s' ∧ fr s s' [2001] ∧ (okE A (s 2001)) ∧ (s' 2001 = s 2001 + gT A (s 2001))) ∨ (R = .inr 12 ∧ cXp ((q + 1)) g s p c [] [800, 801, 802, 803, 804, 805, 806, 807, 808, 809, 902, 1705, 1706, 2001, 2002, 2003, 2004, 2005, 2006, 2106, 2107, 2108, 2109, 2110, 2111, 2112, 2113, 2114, 2115, 2116] H ∧ (¬ okE A (s 2001)))) := by
  have b1 : 0 ≤ (s 601) ∧ (s 601) ≤ 32768 := hS 601
  have b2 : 0 ≤ (s 2001) ∧ (s 2001) ≤ 100000 := hS 2001
  have hA := hp0.1
  refine tt_k 2 (S' := (4, [some (.inr (.inl 17)), none], [.inr (.inl 20)], n, D, s, p, c)) rfl ?_
  refine tt_cl (by omega) rfl (e_readTwo (Zi := Zi) (q := q) (n := n) (D := D) (s := s) (p := p) (c := c) (by omega) hz (by omega) hD hS hC hW A hp0) ?_
  rintro _ H1 (⟨s3, r4, rfl, rfl, hS3, hW5, f6, b7, k8, k9, k10⟩ | ⟨rfl, hY11, hn12⟩)
  rotate_left
  · exact tt_ax rfl (Or.inr ⟨rfl, cXp_mono (cXp_tr (fk_rf hD) (show fr s s [800, 801, 802, 803, 804, 805, 806, 807, 808, 809, 902, 1705, 1706, 2001, 2002, 2003, 2004, 2005, 2006, 2106, 2107, 2108, 2109, 2110, 2111, 2112, 2113, 2114, 2115, 2116] from fr_rf) ((frp_rf : frp p p []) 8 (by decide)) hY11 (by decide) (by decide)) (by omega), (fun h => by have h2 := rdTwo_gn (a := s 2001) (by rw [show s 2001 = s 2001 by omega]; exact hn12); obtain ⟨h3, h4⟩ := h; omega)⟩)
  show tt Zi d 88 (7, [some (.inr (.inl 17)), none], [.inl r4], n, D, s3, p, c) _
  replace k8 : rdTwo A ((s 2001)) = some r4 := k8
  replace k9 : (s3 2001) = (s 2001) + 2 := k9
  replace k10 : (s3 2001) ≤ (s 601) := k10
  have b13 : 0 ≤ (s3 2001) ∧ (s3 2001) ≤ 100000 := hS3 2001
  have e14 : s3 601 = (s 601) := (f6 601 (by decide))
  have b15 : 0 ≤ (s3 601) ∧ (s3 601) ≤ 32768 := hS3 601
  have hx16 : tpl A (s3 601) (c (p 600)) := by rw [f6 601 (by decide)]; exact hp0
  have hg0 : s 2001 + 1 < A.2 ∧ gT A (s 2001) = r4 := rdTwo_g (by rw [show s 2001 = s 2001 by omega]; exact k8)
  refine tt_k 4 (S' := (11, [some (.inr (.inl 17)), some (.inl r4)], [.inl 2, .inl r4, .inr (.inl 17)], n, D, s3, p, c)) rfl ?_
  have K18 : ∀ (j17 : Int) , (0 ≤ j17 ∧ j17 ≤ 1) → (j17 = 1 ↔ 2 ≤ r4) → (True) → tt Zi d 88 (19, [some (.inr (.inl 17)), some (.inl r4)], [.inl j17, .inr (.inl 17)], n, D, s3, p, c) (fun R H => (∃ (s' : Nat → Int), R = .inl none ∧ H = (n, D, s', p, c) ∧ bS s' ∧ wp q g n D p s' ∧ fr s s' [2001] ∧ (okE A (s 2001)) ∧ (s' 2001 = s 2001 + gT A (s 2001))) ∨ (R = .inr 12 ∧ cXp ((q + 1)) g s p c [] [800, 801, 802, 803, 804, 805, 806, 807, 808, 809, 902, 1705, 1706, 2001, 2002, 2003, 2004, 2005, 2006, 2106, 2107, 2108, 2109, 2110, 2111, 2112, 2113, 2114, 2115, 2116] H ∧ (¬ okE A (s 2001)))) := by
    intro j17 b20 b21 hj19
    refine tt_k 2 (S' := (23, [some (.inr (.inl 17)), some (.inl r4)], [.inr (.inl 20), .inl j17, .inr (.inl 17)], n, D, s3, p, c)) rfl ?_
    refine tt_cl (by omega) rfl (g_openPlace (Zi := Zi) (q := q) (n := n) (D := D) (s := s3) (p := p) (c := c) (by omega) hz (by omega) hD hS3 hC hW5 ) ?_
    rintro _ _ ⟨r22, rfl, rfl, b23, k24⟩
    show tt Zi d 88 (26, [some (.inr (.inl 17)), some (.inl r4)], [.inl r22, .inl j17, .inr (.inl 17)], n, D, s3, p, c) _
    replace k24 : r22 = (s3 2001) - 1 := k24
    refine tt_k 2 (S' := (28, [some (.inr (.inl 17)), some (.inl r4)], [.inl (r22 - 1), .inl j17, .inr (.inl 17)], n, D, s3, p, c)) rfl ?_
    refine tt_cl (by omega) rfl (e_checkLength (Zi := Zi) (q := q) (n := n) (D := D) (s := s3) (p := p) (c := c) (by omega) hz (by omega) hD hS3 hC hW5 j17 (r22 - 1) (by omega) (by omega)) ?_
    rintro _ H1 (⟨rfl, rfl, k25⟩ | ⟨rfl, hY26, hn27⟩)
    rotate_left
    · exact tt_ax rfl (Or.inr ⟨rfl, cXp_mono (cXp_tr (fk_rf hD) (show fr s s3 [800, 801, 802, 803, 804, 805, 806, 807, 808, 809, 902, 1705, 1706, 2001, 2002, 2003, 2004, 2005, 2006, 2106, 2107, 2108, 2109, 2110, 2111, 2112, 2113, 2114, 2115, 2116] from (fr_tr fr_rf f6 (by decide))) ((frp_rf : frp p p []) 8 (by decide)) hY26 (by decide) (by decide)) (by omega), (fun h => by obtain ⟨h3, h4⟩ := h; omega)⟩)
    show tt Zi d 88 (31, [some (.inr (.inl 17)), some (.inl r4)], [], n, D, s3, p, c) _
    replace k25 : j17 = 1 := k25
    refine tt_k 5 (S' := (38, [some (.inr (.inl 17)), some (.inl r4)], [.inl (r4 - 2), .inr (.inl 20)], n, D, s3, p, c)) rfl ?_
    refine tt_cl (by omega) rfl (e_skip (Zi := Zi) (q := q) (n := n) (D := D) (s := s3) (p := p) (c := c) (by omega) hz (by omega) hD hS3 hC hW5 (r4 - 2) (by omega) (show (s3 2001) ≤ 32768 by omega)) ?_
    rintro _ _ ⟨s28, rfl, rfl, hS28, hW29, f30, k31⟩
    show tt Zi d 88 (41, [some (.inr (.inl 17)), some (.inl r4)], [], n, D, s28, p, c) _
    replace k31 : (s28 2001) = (s3 2001) + (r4 - 2) := k31
    have b32 : 0 ≤ (s28 2001) ∧ (s28 2001) ≤ 100000 := hS28 2001
    have e33 : s28 601 = (s3 601) := (f30 601 (by decide))
    have b34 : 0 ≤ (s28 601) ∧ (s28 601) ≤ 32768 := hS28 601
    have hx35 : tpl A (s28 601) (c (p 600)) := by rw [f30 601 (by decide)]; exact hx16
    exact tt_rtv rfl rfl (Or.inl ⟨s28, rfl, rfl, hS28, hW29, (fr_tr (fr_tr fr_rf f6 (by decide)) f30 (by decide)), ⟨by omega, by omega⟩, by show (s28 2001) = s 2001 + gT A (s 2001); omega⟩)
  refine tb_lt (x := r4) (y := 2) rfl rfl (by omega) (fun h36 => ?_) (fun h36 => ?_)
  · show tt Zi d 88 (18, [some (.inr (.inl 17)), some (.inl r4)], [.inr (.inl 17)], n, D, s3, p, c) _
    refine tt_k 1 (S' := (19, [some (.inr (.inl 17)), some (.inl r4)], [.inl 0, .inr (.inl 17)], n, D, s3, p, c)) rfl ?_
    exact K18 0  (by omega) (by omega) (trivial)
  · show tt Zi d 88 (14, [some (.inr (.inl 17)), some (.inl r4)], [.inr (.inl 17)], n, D, s3, p, c) _
    refine tt_k 2 (S' := (19, [some (.inr (.inl 17)), some (.inl r4)], [.inl 1, .inr (.inl 17)], n, D, s3, p, c)) rfl ?_
    exact K18 1  (by omega) (by omega) (trivial)
set_option maxRecDepth 100000 in
set_option maxHeartbeats 4000000 in
theorem e_readMeasures_L42 {g : Nat → Int} {Zi : Nat → Option (Nat × (Nat → Int))} {d n q : Nat} {D : Nat → Nat × Nat} {s : Nat → Int} {p : Nat → Nat} {c : Nat → Nat → Int} {o_1 : Option mi_V} {Q : mi_Rs → mi_H → Prop} (hd : 6 ≤ d) (hz : zk Zi) (hq : q + 12 ≤ 400001) (hD : wd n p) (hS : bS s) (hC : bC D c) (hW : wp q g n D p s) (A : TN) (aa : Int) (hq0 : tpl A (s 601) (c (p 600))) (hX12 : ∀ H, cXp (q + 1) g s p c [18] [800, 801, 802, 803, 804, 805, 806, 807, 808, 809, 902, 1705, 1706, 2001, 2002, 2003, 2004, 2005, 2006, 2106, 2107, 2108, 2109, 2110, 2111, 2112, 2113, 2114, 2115, 2116] H → (A.2 < aa + 13) → Q (.inr 12) H)
  (hK : ∀ (i : Int) (s0 : Nat → Int) (c0 : Nat → Nat → Int) (b_i : 0 ≤ i ∧ i ≤ 5) (hS0 : bS s0) (hF0 : fr s s0 [2001]) (hC0 : bC D c0) (hW0 : wp q g n D p s0) (hK0 : fk p c n p c0 [18]) (i0 : s0 2001 = aa + 3 + 2 * i ∧ s0 2001 ≤ s 601) (i1 : ∀ j : Nat, (j : Int) < i → c0 18 j = qM A aa j), (5 ≤ i) → tt Zi d 87 (66, [some (.inr (.inl 17)), o_1, some (.inl i)], [], n, D, s0, p, c0) Q) :
  ∀ (m : Nat) (i : Int) (s0 : Nat → Int) (c0 : Nat → Nat → Int) (b_i : 0 ≤ i ∧ i ≤ 5) (hS0 : bS s0) (hF0 : fr s s0 [2001]) (hC0 : bC D c0) (hW0 : wp q g n D p s0) (hK0 : fk p c n p c0 [18]) (i0 : s0 2001 = aa + 3 + 2 * i ∧ s0 2001 ≤ s 601) (i1 : ∀ j : Nat, (j : Int) < i → c0 18 j = qM A aa j), (5 - i).toNat < m → tt Zi d 87 (42, [some (.inr (.inl 17)), o_1, some (.inl i)], [], n, D, s0, p, c0) Q := by
  intro m
  induction m with
  | zero => intro i s0 c0 b_i hS0 hF0 hC0 hW0 hK0 i0 i1 hm; exact absurd hm (by omega)
  | succ m ih =>
    intro i s0 c0 b_i hS0 hF0 hC0 hW0 hK0 i0 i1 hm
    have e1 : s0 601 = s 601 := hF0 601 (by decide)
    have b2 : 0 ≤ (s0 601) ∧ (s0 601) ≤ 32768 := hS0 601
    have b3 : 0 ≤ (s 601) ∧ (s 601) ≤ 32768 := hS 601
    have htp : tpl A (s0 601) (c0 (p 600)) := by rw [hF0 601 (by decide), fk_k (k := 600) hK0 (by decide)]; exact hq0
    have hA := hq0.1
    refine tt_k 2 (S' := (44, [some (.inr (.inl 17)), o_1, some (.inl i)], [.inl 5, .inl i], n, D, s0, p, c0)) rfl ?_
    refine tb_ge (x := i) (y := 5) rfl rfl (by omega) (fun h4 => ?_) (fun h4 => ?_)
    · show tt Zi d 87 (66, [some (.inr (.inl 17)), o_1, some (.inl i)], [], n, D, s0, p, c0) _
      exact hK i s0 c0 (by omega) hS0 hF0 hC0 hW0 hK0 i0 i1 (by omega)
    · show tt Zi d 87 (47, [some (.inr (.inl 17)), o_1, some (.inl i)], [], n, D, s0, p, c0) _
      refine tt_k 5 (S' := (56, [some (.inr (.inl 17)), o_1, some (.inl i)], [.inr (.inl 20), .inl i, .inr (.inl 18)], n, D, s0, p, c0)) rfl ?_
      refine tt_cl (by omega) rfl (e_readTwo (Zi := Zi) (q := q) (n := n) (D := D) (s := s0) (p := p) (c := c0) (by omega) hz (by omega) hK0.1 hS0 hC0 hW0 A htp) ?_
      rintro _ H1 (⟨s5, r6, rfl, rfl, hS5, hW7, f8, b9, k10, k11, k12⟩ | ⟨rfl, hY13, hn14⟩)
      rotate_left
      · exact tt_ax rfl (hX12 _ (cXp_mono (cXp_tr hK0 (fr_wk (show fr s s0 [2001] from hF0) (by decide)) ((frp_rf : frp p p []) 8 (by decide)) hY13 (by decide) (by decide)) (by omega)) (by have h2 := rdTwo_gn hn14; omega))
      show tt Zi d 87 (59, [some (.inr (.inl 17)), o_1, some (.inl i)], [.inl r6, .inl i, .inr (.inl 18)], n, D, s5, p, c0) _
      replace k10 : rdTwo A ((s0 2001)) = some r6 := k10
      replace k11 : (s5 2001) = (s0 2001) + 2 := k11
      replace k12 : (s5 2001) ≤ (s0 601) := k12
      have b15 : 0 ≤ (s0 2001) ∧ (s0 2001) ≤ 100000 := hS0 2001
      have b16 : 0 ≤ (s5 2001) ∧ (s5 2001) ≤ 100000 := hS5 2001
      have e17 : s5 601 = (s0 601) := (f8 601 (by decide))
      have b18 : 0 ≤ (s5 601) ∧ (s5 601) ≤ 32768 := hS5 601
      have hx19 : tpl A (s5 601) (c0 (p 600)) := by rw [f8 601 (by decide)]; exact htp
      have hg : s0 2001 + 1 < A.2 ∧ gT A (s0 2001) = r6 := rdTwo_g k10
      have hgq : qM A aa i.toNat = r6 := by unfold qM; rw [show aa + 3 + 2 * (i.toNat : Int) = s0 2001 by omega]; exact hg.2
      refine tt_isb (i := i) (m := 5) (lo := 0) (hi := 65535) (x := r6) rfl rfl (by omega) hC0 ⟨rfl, rfl⟩ (by omega) ?_
      intro c20 hC20 ec20
      show tt Zi d 87 (60, [some (.inr (.inl 17)), o_1, some (.inl i)], [], n, D, s5, p, c20) _
      have FK21 : fk p c n p c20 [18] := fk_st (k := 18) hK0 ec20 (by decide) rfl
      have hx22 : tpl A (s5 601) (c20 (p 600)) := by rw [ec20, uc_ne (show (p 600) ≠ 18 from FK21.1.2 600 (by decide) 18 (by decide) (by decide))]; exact hx19
      refine tt_k 2 (S' := (42, [some (.inr (.inl 17)), o_1, some (.inl (i + 1))], [], n, D, s5, p, c20)) rfl ?_
      exact ih (i + 1) s5 c20 (by omega) hS5 (fr_tr hF0 f8 (by decide)) hC20 hW7 FK21 (show (s5 2001) = aa + 3 + 2 * (i + 1) ∧ (s5 2001) ≤ s 601 by omega) (fun j hj => by rw [ec20, uc_eq]; exact if e : j = i.toNat then (by rw [e, ua_eq]; exact hgq.symm) else (by rw [ua_ne e]; exact i1 j (by omega))) (show (5 - (i + 1)).toNat < m by omega)
set_option maxRecDepth 100000 in
set_option maxHeartbeats 4000000 in
theorem e_readMeasures {g : Nat → Int} {Zi : Nat → Option (Nat × (Nat → Int))} {d n q : Nat} {D : Nat → Nat × Nat} {s : Nat → Int} {p : Nat → Nat} {c : Nat → Nat → Int} (hd : 6 ≤ d) (hz : zk Zi) (hq : q + 12 ≤ 400000) (hD : wd n p) (hS : bS s) (hC : bC D c) (hW : wp q g n D p s) (A : TN) (hp0 : tpl A (s 601) (c (p 600))) : tt Zi d 87 (0, [some (.inr (.inl 17)), none, none], [], n, D, s, p, c) (fun R H => (∃ (s' : Nat → Int) (c' : Nat → Nat → Int), R = .inl none ∧ H = (n, D, s', p, c') ∧ bS s' ∧ bC D c' ∧ wp q g n D p s' ∧ fr s s' [2001] ∧ fk p c n p c' [18] ∧ (okM A (s 2001)) ∧ (s' 2001 = s 2001 + 13) ∧ (s' 2001 ≤ s 601) ∧ (∀ i : Nat, i < 5 → c' 18 i = qM A (s 2001) i)) ∨ (R = .inr 12 ∧ cXp ((q + 1)) g s p c [18] [800, 801, 802, 803, 804, 805, 806, 807, 808, 809, 902, 1705, 1706, 2001, 2002, 2003, 2004, 2005, 2006, 2106, 2107, 2108, 2109, 2110, 2111, 2112, 2113, 2114, 2115, 2116] H ∧ (¬ okM A (s 2001)))) := by
  have b1 : 0 ≤ (s 601) ∧ (s 601) ≤ 32768 := hS 601
  have b2 : 0 ≤ (s 2001) ∧ (s 2001) ≤ 100000 := hS 2001
  have hA := hp0.1
  refine tt_k 2 (S' := (4, [some (.inr (.inl 17)), none, none], [.inr (.inl 20)], n, D, s, p, c)) rfl ?_
  refine tt_cl (by omega) rfl (e_readTwo (Zi := Zi) (q := q) (n := n) (D := D) (s := s) (p := p) (c := c) (by omega) hz (by omega) hD hS hC hW A hp0) ?_
  rintro _ H1 (⟨s3, r4, rfl, rfl, hS3, hW5, f6, b7, k8, k9, k10⟩ | ⟨rfl, hY11, hn12⟩)
  rotate_left
  · exact tt_ax rfl (Or.inr ⟨rfl, cXp_mono (cXp_tr (fk_rf hD) (show fr s s [800, 801, 802, 803, 804, 805, 806, 807, 808, 809, 902, 1705, 1706, 2001, 2002, 2003, 2004, 2005, 2006, 2106, 2107, 2108, 2109, 2110, 2111, 2112, 2113, 2114, 2115, 2116] from fr_rf) ((frp_rf : frp p p []) 8 (by decide)) hY11 (by decide) (by decide)) (by omega), (fun h => by have h2 := rdTwo_gn (a := s 2001) (by rw [show s 2001 = s 2001 by omega]; exact hn12); obtain ⟨h3, h4, h5⟩ := h; omega)⟩)
  show tt Zi d 87 (7, [some (.inr (.inl 17)), none, none], [.inl r4], n, D, s3, p, c) _
  replace k8 : rdTwo A ((s 2001)) = some r4 := k8
  replace k9 : (s3 2001) = (s 2001) + 2 := k9
  replace k10 : (s3 2001) ≤ (s 601) := k10
  have b13 : 0 ≤ (s3 2001) ∧ (s3 2001) ≤ 100000 := hS3 2001
  have e14 : s3 601 = (s 601) := (f6 601 (by decide))
  have b15 : 0 ≤ (s3 601) ∧ (s3 601) ≤ 32768 := hS3 601
  have hx16 : tpl A (s3 601) (c (p 600)) := by rw [f6 601 (by decide)]; exact hp0
  have hg0 : s 2001 + 1 < A.2 ∧ gT A (s 2001) = r4 := rdTwo_g (by rw [show s 2001 = s 2001 by omega]; exact k8)
  refine tt_k 4 (S' := (12, [some (.inr (.inl 17)), some (.inl r4), none], [.inl 13, .inl r4, .inr (.inl 17)], n, D, s3, p, c)) rfl ?_
  have K18 : ∀ (j17 : Int) , (0 ≤ j17 ∧ j17 ≤ 1) → (j17 = 1 ↔ r4 = 13) → (True) → tt Zi d 87 (20, [some (.inr (.inl 17)), some (.inl r4), none], [.inl j17, .inr (.inl 17)], n, D, s3, p, c) (fun R H => (∃ (s' : Nat → Int) (c' : Nat → Nat → Int), R = .inl none ∧ H = (n, D, s', p, c') ∧ bS s' ∧ bC D c' ∧ wp q g n D p s' ∧ fr s s' [2001] ∧ fk p c n p c' [18] ∧ (okM A (s 2001)) ∧ (s' 2001 = s 2001 + 13) ∧ (s' 2001 ≤ s 601) ∧ (∀ i : Nat, i < 5 → c' 18 i = qM A (s 2001) i)) ∨ (R = .inr 12 ∧ cXp ((q + 1)) g s p c [18] [800, 801, 802, 803, 804, 805, 806, 807, 808, 809, 902, 1705, 1706, 2001, 2002, 2003, 2004, 2005, 2006, 2106, 2107, 2108, 2109, 2110, 2111, 2112, 2113, 2114, 2115, 2116] H ∧ (¬ okM A (s 2001)))) := by
    intro j17 b20 b21 hj19
    refine tt_k 2 (S' := (24, [some (.inr (.inl 17)), some (.inl r4), none], [.inr (.inl 20), .inl j17, .inr (.inl 17)], n, D, s3, p, c)) rfl ?_
    refine tt_cl (by omega) rfl (g_openPlace (Zi := Zi) (q := q) (n := n) (D := D) (s := s3) (p := p) (c := c) (by omega) hz (by omega) hD hS3 hC hW5 ) ?_
    rintro _ _ ⟨r22, rfl, rfl, b23, k24⟩
    show tt Zi d 87 (27, [some (.inr (.inl 17)), some (.inl r4), none], [.inl r22, .inl j17, .inr (.inl 17)], n, D, s3, p, c) _
    replace k24 : r22 = (s3 2001) - 1 := k24
    refine tt_k 2 (S' := (29, [some (.inr (.inl 17)), some (.inl r4), none], [.inl (r22 - 1), .inl j17, .inr (.inl 17)], n, D, s3, p, c)) rfl ?_
    refine tt_cl (by omega) rfl (e_checkLength (Zi := Zi) (q := q) (n := n) (D := D) (s := s3) (p := p) (c := c) (by omega) hz (by omega) hD hS3 hC hW5 j17 (r22 - 1) (by omega) (by omega)) ?_
    rintro _ H1 (⟨rfl, rfl, k25⟩ | ⟨rfl, hY26, hn27⟩)
    rotate_left
    · exact tt_ax rfl (Or.inr ⟨rfl, cXp_mono (cXp_tr (fk_rf hD) (show fr s s3 [800, 801, 802, 803, 804, 805, 806, 807, 808, 809, 902, 1705, 1706, 2001, 2002, 2003, 2004, 2005, 2006, 2106, 2107, 2108, 2109, 2110, 2111, 2112, 2113, 2114, 2115, 2116] from (fr_tr fr_rf f6 (by decide))) ((frp_rf : frp p p []) 8 (by decide)) hY26 (by decide) (by decide)) (by omega), (fun h => by obtain ⟨h3, h4, h5⟩ := h; omega)⟩)
    show tt Zi d 87 (32, [some (.inr (.inl 17)), some (.inl r4), none], [], n, D, s3, p, c) _
    replace k25 : j17 = 1 := k25
    refine tt_k 3 (S' := (37, [some (.inr (.inl 17)), some (.inl r4), none], [.inl 1, .inr (.inl 20)], n, D, s3, p, c)) rfl ?_
    refine tt_cl (by omega) rfl (e_expect (Zi := Zi) (q := q) (n := n) (D := D) (s := s3) (p := p) (c := c) (by omega) hz (by omega) hD hS3 hC hW5 A 1 (by omega) hx16) ?_
    rintro _ H1 (⟨s28, rfl, rfl, hS28, hW29, f30, k31, k32, k33⟩ | ⟨rfl, hY34, hn35⟩)
    rotate_left
    · exact tt_ax rfl (Or.inr ⟨rfl, cXp_mono (cXp_tr (fk_rf hD) (show fr s s3 [800, 801, 802, 803, 804, 805, 806, 807, 808, 809, 902, 1705, 1706, 2001, 2002, 2003, 2004, 2005, 2006, 2106, 2107, 2108, 2109, 2110, 2111, 2112, 2113, 2114, 2115, 2116] from (fr_tr fr_rf f6 (by decide))) ((frp_rf : frp p p []) 8 (by decide)) hY34 (by decide) (by decide)) (by omega), (fun h => by have h2 := rdB_gx (a := s 2001 + 2) (by rw [show s 2001 + 2 = s3 2001 by omega]; exact hn35); obtain ⟨h3, h4, h5⟩ := h; omega)⟩)
    show tt Zi d 87 (40, [some (.inr (.inl 17)), some (.inl r4), none], [], n, D, s28, p, c) _
    replace k31 : rdB A ((s3 2001)) = some 1 := k31
    replace k32 : (s28 2001) = (s3 2001) + 1 := k32
    replace k33 : (s28 2001) ≤ (s3 601) := k33
    have b36 : 0 ≤ (s28 2001) ∧ (s28 2001) ≤ 100000 := hS28 2001
    have e37 : s28 601 = (s3 601) := (f30 601 (by decide))
    have b38 : 0 ≤ (s28 601) ∧ (s28 601) ≤ 32768 := hS28 601
    have hx39 : tpl A (s28 601) (c (p 600)) := by rw [f30 601 (by decide)]; exact hx16
    have hg2 : s 2001 + 2 < A.2 ∧ gB A (s 2001 + 2) = 1 := rdB_g (by rw [show s 2001 + 2 = s3 2001 by omega]; exact k31)
    refine tt_k 2 (S' := (42, [some (.inr (.inl 17)), some (.inl r4), some (.inl 0)], [], n, D, s28, p, c)) rfl ?_
    refine e_readMeasures_L42 (Zi := Zi) (q := q) (n := n) (D := D) (s := s28) (p := p) (c := c) hd hz (by omega) hD hS28 hC hW29 A (s 2001)   hx39 (fun H h hq9 => (Or.inr ⟨rfl, cXp_mono (cXp_tr (fk_rf hD) (show fr s s28 [800, 801, 802, 803, 804, 805, 806, 807, 808, 809, 902, 1705, 1706, 2001, 2002, 2003, 2004, 2005, 2006, 2106, 2107, 2108, 2109, 2110, 2111, 2112, 2113, 2114, 2115, 2116] from (fr_tr (fr_tr fr_rf f6 (by decide)) f30 (by decide))) ((frp_rf : frp p p []) 8 (by decide)) h (by decide) (by decide)) (by omega), (fun h => by have h9 := hq9; obtain ⟨h3, h4, h5⟩ := h; omega)⟩)) ?_ _ 0 s28 c (by omega) hS28 fr_rf hC hW29 (fk_rf hD) (show (s28 2001) = (s 2001) + 3 + 2 * 0 ∧ (s28 2001) ≤ (s28 601) by omega) (fun j hj => absurd hj (by omega)) (Nat.lt_succ_self _)
    intro x40 s41 c42 b43 hS41 f44 hC42 hW45 kf46 i47 i48 hx49
    show tt Zi d 87 (66, [some (.inr (.inl 17)), some (.inl r4), some (.inl x40)], [], n, D, s41, p, c42) _
    have FK50 : fk p c n p c42 [18] := fk_tr (fk_rf hD) kf46 (by decide)
    replace i47 : (s41 2001) = (s 2001) + 3 + 2 * x40 ∧ (s41 2001) ≤ (s28 601) := i47
    have b51 : 0 ≤ (s41 2001) ∧ (s41 2001) ≤ 100000 := hS41 2001
    replace hx49 : 5 ≤ x40 := hx49
    have e52 : s41 601 = (s28 601) := (f44 601 (by decide))
    have b53 : 0 ≤ (s41 601) ∧ (s41 601) ≤ 32768 := hS41 601
    have hx54 : tpl A (s41 601) (c42 (p 600)) := by rw [f44 601 (by decide), fk_k (k := 600) kf46 (by decide)]; exact hx39
    exact tt_rtv rfl rfl (Or.inl ⟨s41, c42, rfl, rfl, hS41, hC42, hW45, (fr_tr (fr_tr (fr_tr fr_rf f6 (by decide)) f30 (by decide)) f44 (by decide)), FK50, ⟨by omega, by omega, by omega⟩, by show (s41 2001) = s 2001 + 13; omega, by show (s41 2001) ≤ s 601; omega, fun i hi => i48 i (by omega)⟩)
  refine tb_ne (x := r4) (y := 13) rfl rfl (by omega) (fun h55 => ?_) (fun h55 => ?_)
  · show tt Zi d 87 (19, [some (.inr (.inl 17)), some (.inl r4), none], [.inr (.inl 17)], n, D, s3, p, c) _
    refine tt_k 1 (S' := (20, [some (.inr (.inl 17)), some (.inl r4), none], [.inl 0, .inr (.inl 17)], n, D, s3, p, c)) rfl ?_
    exact K18 0  (by omega) (by omega) (trivial)
  · show tt Zi d 87 (15, [some (.inr (.inl 17)), some (.inl r4), none], [.inr (.inl 17)], n, D, s3, p, c) _
    refine tt_k 2 (S' := (20, [some (.inr (.inl 17)), some (.inl r4), none], [.inl 1, .inr (.inl 17)], n, D, s3, p, c)) rfl ?_
    exact K18 1  (by omega) (by omega) (trivial)
set_option maxRecDepth 100000 in
set_option maxHeartbeats 4000000 in
theorem e_readName_L15 {g : Nat → Int} {Zi : Nat → Option (Nat × (Nat → Int))} {d n q : Nat} {D : Nat → Nat × Nat} {s : Nat → Int} {p : Nat → Nat} {c : Nat → Nat → Int}  {Q : mi_Rs → mi_H → Prop} (hd : 5 ≤ d) (hz : zk Zi) (hq : q + 10 ≤ 400001) (hD : wd n p) (hS : bS s) (hC : bC D c) (hW : wp q g n D p s) (pn : Int) (b_pn : 0 ≤ pn ∧ pn ≤ 2) (hX12 : ∀ H, cXp (q + 1) g s p c [19] [800, 801, 802, 803, 804, 805, 806, 807, 808, 809, 902, 1705, 1706, 2001, 2002, 2003, 2004, 2005, 2006, 2106, 2107, 2108, 2109, 2110, 2111, 2112, 2113, 2114, 2115, 2116] H → (dupV (c 19) pn (c 19 pn.toNat)) → Q (.inr 12) H)
  (hK : ∀ (i : Int) (b_i : 0 ≤ i ∧ i ≤ 2) (i0 : i ≤ pn) (i1 : ∀ j : Int, 0 ≤ j → j < i → c 19 j.toNat ≠ c 19 pn.toNat), (pn ≤ i) → tt Zi d 86 (57, [some (.inr (.inl 17)), some (.inl pn), some (.inl i)], [], n, D, s, p, c) Q) :
  ∀ (m : Nat) (i : Int) (b_i : 0 ≤ i ∧ i ≤ 2) (i0 : i ≤ pn) (i1 : ∀ j : Int, 0 ≤ j → j < i → c 19 j.toNat ≠ c 19 pn.toNat), (pn - i).toNat < m → tt Zi d 86 (15, [some (.inr (.inl 17)), some (.inl pn), some (.inl i)], [], n, D, s, p, c) Q := by
  intro m
  induction m with
  | zero => intro i b_i i0 i1 hm; exact absurd hm (by omega)
  | succ m ih =>
    intro i b_i i0 i1 hm
    refine tt_k 2 (S' := (17, [some (.inr (.inl 17)), some (.inl pn), some (.inl i)], [.inl pn, .inl i], n, D, s, p, c)) rfl ?_
    refine tb_ge (x := i) (y := pn) rfl rfl (by omega) (fun h1 => ?_) (fun h1 => ?_)
    · show tt Zi d 86 (57, [some (.inr (.inl 17)), some (.inl pn), some (.inl i)], [], n, D, s, p, c) _
      exact hK i (by omega) i0 i1 (by omega)
    · show tt Zi d 86 (20, [some (.inr (.inl 17)), some (.inl pn), some (.inl i)], [], n, D, s, p, c) _
      refine tt_k 4 (S' := (26, [some (.inr (.inl 17)), some (.inl pn), some (.inl i)], [.inl i, .inr (.inl 19), .inr (.inl 17)], n, D, s, p, c)) rfl ?_
      refine tt_ilb (i := i) (m := 3) (lo := -2147483648) (hi := 2147483647) rfl rfl (by omega) hC ⟨rfl, rfl⟩ ?_
      intro v2 b3 hvv2
      show tt Zi d 86 (27, [some (.inr (.inl 17)), some (.inl pn), some (.inl i)], [.inl v2, .inr (.inl 17)], n, D, s, p, c) _
      refine tt_k 3 (S' := (32, [some (.inr (.inl 17)), some (.inl pn), some (.inl i)], [.inl pn, .inr (.inl 19), .inl v2, .inr (.inl 17)], n, D, s, p, c)) rfl ?_
      refine tt_ilb (i := pn) (m := 3) (lo := -2147483648) (hi := 2147483647) rfl rfl (by omega) hC ⟨rfl, rfl⟩ ?_
      intro v4 b5 hvv4
      show tt Zi d 86 (33, [some (.inr (.inl 17)), some (.inl pn), some (.inl i)], [.inl v4, .inl v2, .inr (.inl 17)], n, D, s, p, c) _
      have K7 : ∀ (j6 : Int) , (0 ≤ j6 ∧ j6 ≤ 1) → (j6 = 1 ↔ c 19 i.toNat ≠ c 19 pn.toNat) → (True) → tt Zi d 86 (41, [some (.inr (.inl 17)), some (.inl pn), some (.inl i)], [.inl j6, .inr (.inl 17)], n, D, s, p, c) Q := by
        intro j6 b9 b10 hj8
        refine tt_k 2 (S' := (45, [some (.inr (.inl 17)), some (.inl pn), some (.inl i)], [.inr (.inl 20), .inl j6, .inr (.inl 17)], n, D, s, p, c)) rfl ?_
        refine tt_cl (by omega) rfl (g_openPlace (Zi := Zi) (q := q) (n := n) (D := D) (s := s) (p := p) (c := c) (by omega) hz (by omega) hD hS hC hW ) ?_
        rintro _ _ ⟨r11, rfl, rfl, b12, k13⟩
        show tt Zi d 86 (48, [some (.inr (.inl 17)), some (.inl pn), some (.inl i)], [.inl r11, .inl j6, .inr (.inl 17)], n, D, s, p, c) _
        replace k13 : r11 = (s 2001) - 1 := k13
        have b14 : 0 ≤ (s 2001) ∧ (s 2001) ≤ 100000 := hS 2001
        refine tt_cl (by omega) rfl (e_checkContent (Zi := Zi) (q := q) (n := n) (D := D) (s := s) (p := p) (c := c) (by omega) hz (by omega) hD hS hC hW j6 r11 (by omega) (by omega)) ?_
        rintro _ H1 (⟨rfl, rfl, k15⟩ | ⟨rfl, hY16, hn17⟩)
        rotate_left
        · exact tt_ax rfl (hX12 _ (cXp_mono (cXp_tr (fk_rf hD) (show fr s s [800, 801, 802, 803, 804, 805, 806, 807, 808, 809, 902, 1705, 1706, 2001, 2002, 2003, 2004, 2005, 2006, 2106, 2107, 2108, 2109, 2110, 2111, 2112, 2113, 2114, 2115, 2116] from fr_rf) ((frp_rf : frp p p []) 8 (by decide)) hY16 (by decide) (by decide)) (by omega)) ⟨i, by omega, by omega⟩)
        show tt Zi d 86 (51, [some (.inr (.inl 17)), some (.inl pn), some (.inl i)], [], n, D, s, p, c) _
        replace k15 : j6 = 1 := k15
        refine tt_k 2 (S' := (15, [some (.inr (.inl 17)), some (.inl pn), some (.inl (i + 1))], [], n, D, s, p, c)) rfl ?_
        exact ih (i + 1) (by omega) (show (i + 1) ≤ pn by omega) (fun j h1 h2 => if e : j = i then (by rw [e]; omega) else (by exact i1 j h1 (by omega))) (show (pn - (i + 1)).toNat < m by omega)
      refine tb_eq (x := v2) (y := v4) rfl rfl (by omega) (fun h18 => ?_) (fun h18 => ?_)
      · show tt Zi d 86 (40, [some (.inr (.inl 17)), some (.inl pn), some (.inl i)], [.inr (.inl 17)], n, D, s, p, c) _
        refine tt_k 1 (S' := (41, [some (.inr (.inl 17)), some (.inl pn), some (.inl i)], [.inl 0, .inr (.inl 17)], n, D, s, p, c)) rfl ?_
        exact K7 0  (by omega) (by omega) (trivial)
      · show tt Zi d 86 (36, [some (.inr (.inl 17)), some (.inl pn), some (.inl i)], [.inr (.inl 17)], n, D, s, p, c) _
        refine tt_k 2 (S' := (41, [some (.inr (.inl 17)), some (.inl pn), some (.inl i)], [.inl 1, .inr (.inl 17)], n, D, s, p, c)) rfl ?_
        exact K7 1  (by omega) (by omega) (trivial)
set_option maxRecDepth 100000 in
set_option maxHeartbeats 4000000 in
theorem e_readName {g : Nat → Int} {Zi : Nat → Option (Nat × (Nat → Int))} {d n q : Nat} {D : Nat → Nat × Nat} {s : Nat → Int} {p : Nat → Nat} {c : Nat → Nat → Int} (hd : 5 ≤ d) (hz : zk Zi) (hq : q + 10 ≤ 400000) (hD : wd n p) (hS : bS s) (hC : bC D c) (hW : wp q g n D p s) (A : TN) (pn : Int) (b_pn : 0 ≤ pn ∧ pn ≤ 2) (hp0 : tpl A (s 601) (c (p 600))) : tt Zi d 86 (0, [some (.inr (.inl 17)), some (.inl pn), none], [], n, D, s, p, c) (fun R H => (∃ (s' : Nat → Int) (c' : Nat → Nat → Int), R = .inl none ∧ H = (n, D, s', p, c') ∧ bS s' ∧ bC D c' ∧ wp q g n D p s' ∧ fr s s' [2001] ∧ fk p c n p c' [19] ∧ (s' 2001 = s 2001 + 1) ∧ (s' 2001 ≤ s 601) ∧ (c' 19 = ua (c 19) pn.toNat (gB A (s 2001))) ∧ (∀ j : Int, 0 ≤ j → j < pn → c 19 j.toNat ≠ gB A (s 2001)) ∧ (s 2001 < A.2)) ∨ (R = .inr 12 ∧ cXp ((q + 1)) g s p c [19] [800, 801, 802, 803, 804, 805, 806, 807, 808, 809, 902, 1705, 1706, 2001, 2002, 2003, 2004, 2005, 2006, 2106, 2107, 2108, 2109, 2110, 2111, 2112, 2113, 2114, 2115, 2116] H ∧ (A.2 ≤ s 2001 ∨ dupV (c 19) pn (gB A (s 2001))))) := by
  have b1 : 0 ≤ (s 601) ∧ (s 601) ≤ 32768 := hS 601
  have b2 : 0 ≤ (s 2001) ∧ (s 2001) ≤ 100000 := hS 2001
  have hA := hp0.1
  refine tt_k 5 (S' := (9, [some (.inr (.inl 17)), some (.inl pn), none], [.inr (.inl 20), .inl pn, .inr (.inl 19)], n, D, s, p, c)) rfl ?_
  refine tt_cl (by omega) rfl (e_readByte (Zi := Zi) (q := q) (n := n) (D := D) (s := s) (p := p) (c := c) (by omega) hz (by omega) hD hS hC hW A hp0) ?_
  rintro _ H1 (⟨s3, r4, rfl, rfl, hS3, hW5, f6, b7, k8, k9, k10⟩ | ⟨rfl, hY11, hn12⟩)
  rotate_left
  · exact tt_ax rfl (Or.inr ⟨rfl, cXp_mono (cXp_tr (fk_rf hD) (show fr s s [800, 801, 802, 803, 804, 805, 806, 807, 808, 809, 902, 1705, 1706, 2001, 2002, 2003, 2004, 2005, 2006, 2106, 2107, 2108, 2109, 2110, 2111, 2112, 2113, 2114, 2115, 2116] from fr_rf) ((frp_rf : frp p p []) 8 (by decide)) hY11 (by decide) (by decide)) (by omega), (Or.inl (rdB_gn hn12))⟩)
  show tt Zi d 86 (12, [some (.inr (.inl 17)), some (.inl pn), none], [.inl r4, .inl pn, .inr (.inl 19)], n, D, s3, p, c) _
  replace k8 : rdB A ((s 2001)) = some r4 := k8
  replace k9 : (s3 2001) = (s 2001) + 1 := k9
  replace k10 : (s3 2001) ≤ (s 601) := k10
  have b13 : 0 ≤ (s3 2001) ∧ (s3 2001) ≤ 100000 := hS3 2001
  have e14 : s3 601 = (s 601) := (f6 601 (by decide))
  have b15 : 0 ≤ (s3 601) ∧ (s3 601) ≤ 32768 := hS3 601
  have hx16 : tpl A (s3 601) (c (p 600)) := by rw [f6 601 (by decide)]; exact hp0
  have hg0 : s 2001 < A.2 ∧ gB A (s 2001) = r4 := rdB_g k8
  refine tt_isb (i := pn) (m := 3) (lo := -2147483648) (hi := 2147483647) (x := r4) rfl rfl (by omega) hC ⟨rfl, rfl⟩ (by omega) ?_
  intro c17 hC17 ec17
  show tt Zi d 86 (13, [some (.inr (.inl 17)), some (.inl pn), none], [], n, D, s3, p, c17) _
  have FK18 : fk p c n p c17 [19] := fk_st (k := 19) (fk_rf hD) ec17 (by decide) rfl
  have hx19 : tpl A (s3 601) (c17 (p 600)) := by rw [ec17, uc_ne (show (p 600) ≠ 19 from FK18.1.2 600 (by decide) 19 (by decide) (by decide))]; exact hx16
  have hn9 : c17 19 = ua (c 19) pn.toNat r4 := by rw [ec17, uc_eq]
  refine tt_k 2 (S' := (15, [some (.inr (.inl 17)), some (.inl pn), some (.inl 0)], [], n, D, s3, p, c17)) rfl ?_
  refine e_readName_L15 (Zi := Zi) (q := q) (n := n) (D := D) (s := s3) (p := p) (c := c17) hd hz (by omega) FK18.1 hS3 hC17 hW5  pn (by omega)  (fun H h hq9 => (Or.inr ⟨rfl, cXp_mono (cXp_tr FK18 (show fr s s3 [800, 801, 802, 803, 804, 805, 806, 807, 808, 809, 902, 1705, 1706, 2001, 2002, 2003, 2004, 2005, 2006, 2106, 2107, 2108, 2109, 2110, 2111, 2112, 2113, 2114, 2115, 2116] from (fr_tr fr_rf f6 (by decide))) ((frp_rf : frp p p []) 8 (by decide)) h (by decide) (by decide)) (by omega), (by obtain ⟨j, hj, he⟩ := hq9; rw [hn9, ua_eq, ua_ne (by omega)] at he; exact Or.inr ⟨j, hj, by rw [he]; omega⟩)⟩)) ?_ _ 0 (by omega) (show 0 ≤ pn by omega) (fun j h1 h2 => absurd h2 (by omega)) (Nat.lt_succ_self _)
  intro x20 b21 i22 i23 hx24
  show tt Zi d 86 (57, [some (.inr (.inl 17)), some (.inl pn), some (.inl x20)], [], n, D, s3, p, c17) _
  replace i22 : x20 ≤ pn := i22
  replace i23 : ∀ j : Int, 0 ≤ j → j < x20 → (c17 19) j.toNat ≠ (c17 19) pn.toNat := i23
  replace hx24 : pn ≤ x20 := hx24
  exact tt_rtv rfl rfl (Or.inl ⟨s3, c17, rfl, rfl, hS3, hC17, hW5, (fr_tr fr_rf f6 (by decide)), FK18, by show (s3 2001) = s 2001 + 1; omega, by show (s3 2001) ≤ s 601; omega, by show c17 19 = ua (c 19) pn.toNat (gB A (s 2001)); rw [hn9, hg0.2], fun j h1 h2 => by have h := i23 j h1 (by omega); rw [hn9, ua_eq, ua_ne (by omega)] at h; rw [hg0.2]; exact h, hg0.1⟩)
