/-! the class writes headers -/
theorem wp_pp1 {g : Nat → Int} {q n : Nat} {D : Nat → Nat × Nat} {p : Nat → Nat} {s : Nat → Int} (h : wp q g n D p s) : wp q g n D (up (up p 8 27) 9 25) s := ⟨h.nb, h.dz, h.r4, h.r6, h.c4, h.c6, h.p1, h.p25, h.p27, h.w1, h.w25, h.w27, h.m9, h.a12, h.a21, Or.inr ⟨rfl, rfl⟩, h.s12, h.s21, h.wo, h.gz⟩
theorem wp_pp2 {g : Nat → Int} {q n : Nat} {D : Nat → Nat × Nat} {p : Nat → Nat} {s : Nat → Int} (h : wp q g n D p s) : wp q g n D (up (up p 8 25) 9 27) s := ⟨h.nb, h.dz, h.r4, h.r6, h.c4, h.c6, h.p1, h.p25, h.p27, h.w1, h.w25, h.w27, h.m9, h.a12, h.a21, Or.inl ⟨rfl, rfl⟩, h.s12, h.s21, h.wo, h.gz⟩
theorem wo_of {g : Nat → Int} {q n : Nat} {D : Nat → Nat × Nat} {p : Nat → Nat} {s : Nat → Int} (hS : bS s) (h : wp q g n D p s) : wo s := by
  have h1 : 1 ≤ s 1602 ∧ s 1602 ≤ 8 := hS 1602
  rcases h.wo with h2 | h2
  · omega
  · exact h2
set_option maxRecDepth 100000 in
set_option maxHeartbeats 4000000 in
theorem g_hasChosen_L10 {g : Nat → Int} {Zi : Nat → Option (Nat × (Nat → Int))} {d n q : Nat} {D : Nat → Nat × Nat} {s : Nat → Int} {p : Nat → Nat} {c : Nat → Nat → Int}  {Q : mi_Rs → mi_H → Prop} (hd : 0 ≤ d) (hz : zk Zi) (hq : q + 0 ≤ 400001) (hD : wd n p) (hS : bS s) (hC : bC D c) (hW : wp q g n D p s) (l_ : Int) (b_l_ : 5 ≤ l_ ∧ l_ ≤ 5) (hR : Q (.inl (some (.inl 1))) (n, D, s, p, c))
  (hK : ∀ (i : Int) (o_4 : Option mi_V) (b_i : 0 ≤ i ∧ i ≤ 5), (True) → tt Zi d 111 (33, [some (.inr (.inl 0)), some (.inr (.inl 3)), some (.inl l_), some (.inl i), o_4], [], n, D, s, p, c) Q) :
  ∀ (m : Nat) (i : Int) (o_4 : Option mi_V) (b_i : 0 ≤ i ∧ i ≤ 5), (5 - i).toNat < m → tt Zi d 111 (10, [some (.inr (.inl 0)), some (.inr (.inl 3)), some (.inl l_), some (.inl i), o_4], [], n, D, s, p, c) Q := by
  intro m
  induction m with
  | zero => intro i o_4 b_i hm; exact absurd hm (by omega)
  | succ m ih =>
    intro i o_4 b_i hm
    refine tt_k 2 (S' := (12, [some (.inr (.inl 0)), some (.inr (.inl 3)), some (.inl l_), some (.inl i), o_4], [.inl l_, .inl i], n, D, s, p, c)) rfl ?_
    refine tb_ge (x := i) (y := l_) rfl rfl (by omega) (fun h1 => ?_) (fun h1 => ?_)
    · show tt Zi d 111 (33, [some (.inr (.inl 0)), some (.inr (.inl 3)), some (.inl l_), some (.inl i), o_4], [], n, D, s, p, c) _
      exact hK i (o_4) (by omega) trivial
    · show tt Zi d 111 (15, [some (.inr (.inl 0)), some (.inr (.inl 3)), some (.inl l_), some (.inl i), o_4], [], n, D, s, p, c) _
      refine tt_k 2 (S' := (17, [some (.inr (.inl 0)), some (.inr (.inl 3)), some (.inl l_), some (.inl i), o_4], [.inl i, .inr (.inl 3)], n, D, s, p, c)) rfl ?_
      refine tt_ilb (i := i) (m := 5) (lo := 0) (hi := 65535) rfl rfl (by omega) hC ⟨rfl, rfl⟩ ?_
      intro v2 b3 hvv2
      show tt Zi d 111 (18, [some (.inr (.inl 0)), some (.inr (.inl 3)), some (.inl l_), some (.inl i), o_4], [.inl v2], n, D, s, p, c) _
      refine tt_k 2 (S' := (22, [some (.inr (.inl 0)), some (.inr (.inl 3)), some (.inl l_), some (.inl i), some (.inl v2)], [.inl v2], n, D, s, p, c)) rfl ?_
      refine tz_eq (x := v2) rfl rfl (by omega) (fun h4 => ?_) (fun h4 => ?_)
      · show tt Zi d 111 (27, [some (.inr (.inl 0)), some (.inr (.inl 3)), some (.inl l_), some (.inl i), some (.inl v2)], [], n, D, s, p, c) _
        refine tt_k 2 (S' := (10, [some (.inr (.inl 0)), some (.inr (.inl 3)), some (.inl l_), some (.inl (i + 1)), some (.inl v2)], [], n, D, s, p, c)) rfl ?_
        exact ih (i + 1) (some (.inl v2)) (by omega) (show (5 - (i + 1)).toNat < m by omega)
      · show tt Zi d 111 (25, [some (.inr (.inl 0)), some (.inr (.inl 3)), some (.inl l_), some (.inl i), some (.inl v2)], [], n, D, s, p, c) _
        refine tt_k 1 (S' := (26, [some (.inr (.inl 0)), some (.inr (.inl 3)), some (.inl l_), some (.inl i), some (.inl v2)], [.inl 1], n, D, s, p, c)) rfl ?_
        exact tt_rtb rfl rfl (by omega) hR
set_option maxRecDepth 100000 in
set_option maxHeartbeats 4000000 in
theorem g_hasChosen {g : Nat → Int} {Zi : Nat → Option (Nat × (Nat → Int))} {d n q : Nat} {D : Nat → Nat × Nat} {s : Nat → Int} {p : Nat → Nat} {c : Nat → Nat → Int} (hd : 0 ≤ d) (hz : zk Zi) (hq : q + 0 ≤ 400000) (hD : wd n p) (hS : bS s) (hC : bC D c) (hW : wp q g n D p s)  : tt Zi d 111 (0, [some (.inr (.inl 0)), none, none, none, none], [], n, D, s, p, c) (fun R H => ∃ (r : Int), R = .inl (some (.inl r)) ∧ H = (n, D, s, p, c) ∧ (0 ≤ r ∧ r ≤ 1)) := by
  refine tt_k 8 (S' := (10, [some (.inr (.inl 0)), some (.inr (.inl 3)), some (.inl 5), some (.inl 0), none], [], n, D, s, p, c)) rfl ?_
  refine g_hasChosen_L10 (Zi := Zi) (q := q) (n := n) (D := D) (s := s) (p := p) (c := c) hd hz (by omega) hD hS hC hW  5 (by omega)  ⟨1, rfl, rfl, by omega⟩ ?_ _ 0 (none) (by omega) (Nat.lt_succ_self _)
  intro x1 x2 b3 hx4
  show tt Zi d 111 (33, [some (.inr (.inl 0)), some (.inr (.inl 3)), some (.inl 5), some (.inl x1), x2], [], n, D, s, p, c) _
  refine tt_k 1 (S' := (34, [some (.inr (.inl 0)), some (.inr (.inl 3)), some (.inl 5), some (.inl x1), x2], [.inl 0], n, D, s, p, c)) rfl ?_
  exact tt_rtb rfl rfl (by omega) ⟨0, rfl, rfl, by omega⟩
set_option maxRecDepth 100000 in
set_option maxHeartbeats 4000000 in
theorem g_writeFrame_L85 {g : Nat → Int} {Zi : Nat → Option (Nat × (Nat → Int))} {d n q : Nat} {D : Nat → Nat × Nat} {s : Nat → Int} {p : Nat → Nat} {c : Nat → Nat → Int}  {Q : mi_Rs → mi_H → Prop} (hd : 3 ≤ d) (hz : zk Zi) (hq : q + 6 ≤ 400001) (hD : wd n p) (hS : bS s) (hC : bC D c) (hW : wp q g n D p s) (hq0 : s 401 ≤ 200200)
  (hK : ∀ (pn : Int) (n0 : Nat) (D0 : Nat → Nat × Nat) (s0 : Nat → Int) (p0 : Nat → Nat) (c0 : Nat → Nat → Int) (b_pn : 0 ≤ pn ∧ pn ≤ 3) (hS0 : bS s0) (hF0 : fr s s0 [401]) (hC0 : bC D0 c0) (hW0 : wp q g n0 D0 p0 s0) (hP0 : frp p p0 [400]) (hE0 : ext n D n0 D0) (hK0 : fk p c n0 p0 c0 [400]) (i0 : s0 401 = s 401 + 3 * pn) (i1 : pn ≤ s 102), (True) → tt Zi d 109 (129, [some (.inr (.inl 0)), some (.inl pn)], [], n0, D0, s0, p0, c0) Q) :
  ∀ (m : Nat) (pn : Int) (n0 : Nat) (D0 : Nat → Nat × Nat) (s0 : Nat → Int) (p0 : Nat → Nat) (c0 : Nat → Nat → Int) (b_pn : 0 ≤ pn ∧ pn ≤ 3) (hS0 : bS s0) (hF0 : fr s s0 [401]) (hC0 : bC D0 c0) (hW0 : wp q g n0 D0 p0 s0) (hP0 : frp p p0 [400]) (hE0 : ext n D n0 D0) (hK0 : fk p c n0 p0 c0 [400]) (i0 : s0 401 = s 401 + 3 * pn) (i1 : pn ≤ s 102), (s 102 - pn).toNat < m → tt Zi d 109 (85, [some (.inr (.inl 0)), some (.inl pn)], [], n0, D0, s0, p0, c0) Q := by
  intro m
  induction m with
  | zero => intro pn n0 D0 s0 p0 c0 b_pn hS0 hF0 hC0 hW0 hP0 hE0 hK0 i0 i1 hm; exact absurd hm (by omega)
  | succ m ih =>
    intro pn n0 D0 s0 p0 c0 b_pn hS0 hF0 hC0 hW0 hP0 hE0 hK0 i0 i1 hm
    have e1 : s0 102 = s 102 := hF0 102 (by decide)
    have b2 : 1 ≤ (s0 102) ∧ (s0 102) ≤ 3 := hS0 102
    have b3 : 1 ≤ (s 102) ∧ (s 102) ≤ 3 := hS 102
    refine tt_k 4 (S' := (93, [some (.inr (.inl 0)), some (.inl pn)], [.inl (s0 102), .inl pn], n0, D0, s0, p0, c0)) rfl ?_
    refine tb_ge (x := pn) (y := (s0 102)) rfl rfl (by omega) (fun h4 => ?_) (fun h4 => ?_)
    · show tt Zi d 109 (129, [some (.inr (.inl 0)), some (.inl pn)], [], n0, D0, s0, p0, c0) _
      exact hK pn n0 D0 s0 p0 c0 (by omega) hS0 hF0 hC0 hW0 hP0 hE0 hK0 (show (s0 401) = s 401 + 3 * pn by omega) (show pn ≤ s 102 by omega) trivial
    · show tt Zi d 109 (96, [some (.inr (.inl 0)), some (.inl pn)], [], n0, D0, s0, p0, c0) _
      refine tt_k 5 (S' := (103, [some (.inr (.inl 0)), some (.inl pn)], [.inl (pn + 1), .inr (.inl 4)], n0, D0, s0, p0, c0)) rfl ?_
      have b5 : 0 ≤ (s0 401) ∧ (s0 401) ≤ 262144 := hS0 401
      refine tt_cl (by omega) rfl (g_add4 (Zi := Zi) (q := q) (n := n0) (D := D0) (s := s0) (p := p0) (c := c0) (by omega) hz (by omega) hK0.1 hS0 hC0 hW0 (pn + 1) (by omega) (show (s0 401) ≤ 262143 by omega)) ?_
      rintro _ _ ⟨n6, D7, s8, p9, c10, rfl, rfl, hS8, hC10, hW11, f12, g13, xe14, kf15, k16⟩
      have FK17 : fk p c n6 p9 c10 [400] := fk_tr hK0 kf15 (by decide)
      show tt Zi d 109 (106, [some (.inr (.inl 0)), some (.inl pn)], [], n6, D7, s8, p9, c10) _
      replace k16 : (s8 401) = (s0 401) + 1 := k16
      have b18 : 0 ≤ (s8 401) ∧ (s8 401) ≤ 262144 := hS8 401
      have e19 : s8 102 = (s0 102) := (f12 102 (by decide))
      have b20 : 1 ≤ (s8 102) ∧ (s8 102) ≤ 3 := hS8 102
      refine tt_k 3 (S' := (112, [some (.inr (.inl 0)), some (.inl pn)], [.inl 17, .inr (.inl 4)], n6, D7, s8, p9, c10)) rfl ?_
      refine tt_cl (by omega) rfl (g_add4 (Zi := Zi) (q := q) (n := n6) (D := D7) (s := s8) (p := p9) (c := c10) (by omega) hz (by omega) FK17.1 hS8 hC10 hW11 17 (by omega) (show (s8 401) ≤ 262143 by omega)) ?_
      rintro _ _ ⟨n21, D22, s23, p24, c25, rfl, rfl, hS23, hC25, hW26, f27, g28, xe29, kf30, k31⟩
      have FK32 : fk p c n21 p24 c25 [400] := fk_tr FK17 kf30 (by decide)
      show tt Zi d 109 (115, [some (.inr (.inl 0)), some (.inl pn)], [], n21, D22, s23, p24, c25) _
      replace k31 : (s23 401) = (s8 401) + 1 := k31
      have b33 : 0 ≤ (s23 401) ∧ (s23 401) ≤ 262144 := hS23 401
      have e34 : s23 102 = (s8 102) := (f27 102 (by decide))
      have b35 : 1 ≤ (s23 102) ∧ (s23 102) ≤ 3 := hS23 102
      refine tt_k 3 (S' := (120, [some (.inr (.inl 0)), some (.inl pn)], [.inl 0, .inr (.inl 4)], n21, D22, s23, p24, c25)) rfl ?_
      refine tt_cl (by omega) rfl (g_add4 (Zi := Zi) (q := q) (n := n21) (D := D22) (s := s23) (p := p24) (c := c25) (by omega) hz (by omega) FK32.1 hS23 hC25 hW26 0 (by omega) (show (s23 401) ≤ 262143 by omega)) ?_
      rintro _ _ ⟨n36, D37, s38, p39, c40, rfl, rfl, hS38, hC40, hW41, f42, g43, xe44, kf45, k46⟩
      have FK47 : fk p c n36 p39 c40 [400] := fk_tr FK32 kf45 (by decide)
      show tt Zi d 109 (123, [some (.inr (.inl 0)), some (.inl pn)], [], n36, D37, s38, p39, c40) _
      replace k46 : (s38 401) = (s23 401) + 1 := k46
      have b48 : 0 ≤ (s38 401) ∧ (s38 401) ≤ 262144 := hS38 401
      have e49 : s38 102 = (s23 102) := (f42 102 (by decide))
      have b50 : 1 ≤ (s38 102) ∧ (s38 102) ≤ 3 := hS38 102
      refine tt_k 2 (S' := (85, [some (.inr (.inl 0)), some (.inl (pn + 1))], [], n36, D37, s38, p39, c40)) rfl ?_
      exact ih (pn + 1) n36 D37 s38 p39 c40 (by omega) hS38 (fr_tr (fr_tr (fr_tr hF0 f12 (by decide)) f27 (by decide)) f42 (by decide)) hC40 hW41 (frp_tr (frp_tr (frp_tr hP0 g13 (by decide)) g28 (by decide)) g43 (by decide)) (ext_tr (ext_tr (ext_tr hE0 xe14) xe29) xe44) FK47 (show (s38 401) = s 401 + 3 * (pn + 1) by omega) (show (pn + 1) ≤ s 102 by omega) (show (s 102 - (pn + 1)).toNat < m by omega)
set_option maxRecDepth 100000 in
set_option maxHeartbeats 4000000 in
theorem g_writeFrame {g : Nat → Int} {Zi : Nat → Option (Nat × (Nat → Int))} {d n q : Nat} {D : Nat → Nat × Nat} {s : Nat → Int} {p : Nat → Nat} {c : Nat → Nat → Int} (hd : 3 ≤ d) (hz : zk Zi) (hq : q + 6 ≤ 400000) (hD : wd n p) (hS : bS s) (hC : bC D c) (hW : wp q g n D p s) (hp0 : s 401 ≤ 200100) : tt Zi d 109 (0, [some (.inr (.inl 0)), none], [], n, D, s, p, c) (fun R H => ∃ (n' : Nat) (D' : Nat → Nat × Nat) (s' : Nat → Int) (p' : Nat → Nat) (c' : Nat → Nat → Int), R = .inl none ∧ H = (n', D', s', p', c') ∧ bS s' ∧ bC D' c' ∧ wp q g n' D' p' s' ∧ fr s s' [401] ∧ frp p p' [400] ∧ ext n D n' D' ∧ fk p c n' p' c' [400] ∧ (s' 401 ≤ s 401 + 21)) := by
  refine tt_k 3 (S' := (7, [some (.inr (.inl 0)), none], [.inl 247, .inr (.inl 4)], n, D, s, p, c)) rfl ?_
  have b1 : 0 ≤ (s 401) ∧ (s 401) ≤ 262144 := hS 401
  refine tt_cl (by omega) rfl (g_addMark4 (Zi := Zi) (q := q) (n := n) (D := D) (s := s) (p := p) (c := c) (by omega) hz (by omega) hD hS hC hW 247 (by omega) (show (s 401) ≤ 262142 by omega)) ?_
  rintro _ _ ⟨n2, D3, s4, p5, c6, rfl, rfl, hS4, hC6, hW7, f8, g9, xe10, kf11, k12⟩
  have FK13 : fk p c n2 p5 c6 [400] := fk_tr (fk_rf hD) kf11 (by decide)
  show tt Zi d 109 (10, [some (.inr (.inl 0)), none], [], n2, D3, s4, p5, c6) _
  replace k12 : (s4 401) = (s 401) + 2 := k12
  have b14 : 0 ≤ (s4 401) ∧ (s4 401) ≤ 262144 := hS4 401
  have e15 : s4 102 = (s 102) := (f8 102 (by decide))
  have b16 : 1 ≤ (s4 102) ∧ (s4 102) ≤ 3 := hS4 102
  have b17 : 1 ≤ (s 102) ∧ (s 102) ≤ 3 := hS 102
  refine tt_k 5 (S' := (21, [some (.inr (.inl 0)), none], [.inl (s4 102), .inr (.inl 4)], n2, D3, s4, p5, c6)) rfl ?_
  refine tt_cl (by omega) rfl (g_frameLength (Zi := Zi) (q := q) (n := n2) (D := D3) (s := s4) (p := p5) (c := c6) (by omega) hz (by omega) FK13.1 hS4 hC6 hW7 (s4 102) (by omega)) ?_
  rintro _ _ ⟨r18, rfl, rfl, b19, k20⟩
  show tt Zi d 109 (24, [some (.inr (.inl 0)), none], [.inl r18, .inr (.inl 4)], n2, D3, s4, p5, c6) _
  replace k20 : r18 = 8 + 3 * (s4 102) := k20
  refine tt_cl (by omega) rfl (g_addTwo4 (Zi := Zi) (q := q) (n := n2) (D := D3) (s := s4) (p := p5) (c := c6) (by omega) hz (by omega) FK13.1 hS4 hC6 hW7 r18 (by omega) (show (s4 401) ≤ 262142 by omega)) ?_
  rintro _ _ ⟨n21, D22, s23, p24, c25, rfl, rfl, hS23, hC25, hW26, f27, g28, xe29, kf30, k31⟩
  have FK32 : fk p c n21 p24 c25 [400] := fk_tr FK13 kf30 (by decide)
  show tt Zi d 109 (27, [some (.inr (.inl 0)), none], [], n21, D22, s23, p24, c25) _
  replace k31 : (s23 401) = (s4 401) + 2 := k31
  have b33 : 0 ≤ (s23 401) ∧ (s23 401) ≤ 262144 := hS23 401
  have e34 : s23 102 = (s4 102) := (f27 102 (by decide))
  have b35 : 1 ≤ (s23 102) ∧ (s23 102) ≤ 3 := hS23 102
  refine tt_k 5 (S' := (38, [some (.inr (.inl 0)), none], [.inl (s23 103), .inr (.inl 4)], n21, D22, s23, p24, c25)) rfl ?_
  have b36 : 2 ≤ (s23 103) ∧ (s23 103) ≤ 16 := hS23 103
  refine tt_cl (by omega) rfl (g_add4 (Zi := Zi) (q := q) (n := n21) (D := D22) (s := s23) (p := p24) (c := c25) (by omega) hz (by omega) FK32.1 hS23 hC25 hW26 (s23 103) (by omega) (show (s23 401) ≤ 262143 by omega)) ?_
  rintro _ _ ⟨n37, D38, s39, p40, c41, rfl, rfl, hS39, hC41, hW42, f43, g44, xe45, kf46, k47⟩
  have FK48 : fk p c n37 p40 c41 [400] := fk_tr FK32 kf46 (by decide)
  show tt Zi d 109 (41, [some (.inr (.inl 0)), none], [], n37, D38, s39, p40, c41) _
  replace k47 : (s39 401) = (s23 401) + 1 := k47
  have b49 : 0 ≤ (s39 401) ∧ (s39 401) ≤ 262144 := hS39 401
  have e50 : s39 102 = (s23 102) := (f43 102 (by decide))
  have b51 : 1 ≤ (s39 102) ∧ (s39 102) ≤ 3 := hS39 102
  refine tt_k 5 (S' := (52, [some (.inr (.inl 0)), none], [.inl (s39 101), .inr (.inl 4)], n37, D38, s39, p40, c41)) rfl ?_
  have b52 : 1 ≤ (s39 101) ∧ (s39 101) ≤ 64 := hS39 101
  refine tt_cl (by omega) rfl (g_addTwo4 (Zi := Zi) (q := q) (n := n37) (D := D38) (s := s39) (p := p40) (c := c41) (by omega) hz (by omega) FK48.1 hS39 hC41 hW42 (s39 101) (by omega) (show (s39 401) ≤ 262142 by omega)) ?_
  rintro _ _ ⟨n53, D54, s55, p56, c57, rfl, rfl, hS55, hC57, hW58, f59, g60, xe61, kf62, k63⟩
  have FK64 : fk p c n53 p56 c57 [400] := fk_tr FK48 kf62 (by decide)
  show tt Zi d 109 (55, [some (.inr (.inl 0)), none], [], n53, D54, s55, p56, c57) _
  replace k63 : (s55 401) = (s39 401) + 2 := k63
  have b65 : 0 ≤ (s55 401) ∧ (s55 401) ≤ 262144 := hS55 401
  have e66 : s55 102 = (s39 102) := (f59 102 (by decide))
  have b67 : 1 ≤ (s55 102) ∧ (s55 102) ≤ 3 := hS55 102
  refine tt_k 5 (S' := (66, [some (.inr (.inl 0)), none], [.inl (s55 100), .inr (.inl 4)], n53, D54, s55, p56, c57)) rfl ?_
  have b68 : 1 ≤ (s55 100) ∧ (s55 100) ≤ 64 := hS55 100
  refine tt_cl (by omega) rfl (g_addTwo4 (Zi := Zi) (q := q) (n := n53) (D := D54) (s := s55) (p := p56) (c := c57) (by omega) hz (by omega) FK64.1 hS55 hC57 hW58 (s55 100) (by omega) (show (s55 401) ≤ 262142 by omega)) ?_
  rintro _ _ ⟨n69, D70, s71, p72, c73, rfl, rfl, hS71, hC73, hW74, f75, g76, xe77, kf78, k79⟩
  have FK80 : fk p c n69 p72 c73 [400] := fk_tr FK64 kf78 (by decide)
  show tt Zi d 109 (69, [some (.inr (.inl 0)), none], [], n69, D70, s71, p72, c73) _
  replace k79 : (s71 401) = (s55 401) + 2 := k79
  have b81 : 0 ≤ (s71 401) ∧ (s71 401) ≤ 262144 := hS71 401
  have e82 : s71 102 = (s55 102) := (f75 102 (by decide))
  have b83 : 1 ≤ (s71 102) ∧ (s71 102) ≤ 3 := hS71 102
  refine tt_k 5 (S' := (80, [some (.inr (.inl 0)), none], [.inl (s71 102), .inr (.inl 4)], n69, D70, s71, p72, c73)) rfl ?_
  refine tt_cl (by omega) rfl (g_add4 (Zi := Zi) (q := q) (n := n69) (D := D70) (s := s71) (p := p72) (c := c73) (by omega) hz (by omega) FK80.1 hS71 hC73 hW74 (s71 102) (by omega) (show (s71 401) ≤ 262143 by omega)) ?_
  rintro _ _ ⟨n84, D85, s86, p87, c88, rfl, rfl, hS86, hC88, hW89, f90, g91, xe92, kf93, k94⟩
  have FK95 : fk p c n84 p87 c88 [400] := fk_tr FK80 kf93 (by decide)
  show tt Zi d 109 (83, [some (.inr (.inl 0)), none], [], n84, D85, s86, p87, c88) _
  replace k94 : (s86 401) = (s71 401) + 1 := k94
  have b96 : 0 ≤ (s86 401) ∧ (s86 401) ≤ 262144 := hS86 401
  have e97 : s86 102 = (s71 102) := (f90 102 (by decide))
  have b98 : 1 ≤ (s86 102) ∧ (s86 102) ≤ 3 := hS86 102
  refine tt_k 2 (S' := (85, [some (.inr (.inl 0)), some (.inl 0)], [], n84, D85, s86, p87, c88)) rfl ?_
  refine g_writeFrame_L85 (Zi := Zi) (q := q) (n := n84) (D := D85) (s := s86) (p := p87) (c := c88) hd hz (by omega) FK95.1 hS86 hC88 hW89    (show (s86 401) ≤ 200200 by omega)  ?_ _ 0 n84 D85 s86 p87 c88 (by omega) hS86 fr_rf hC88 hW89 frp_rf ext_rf (fk_rf FK95.1) (show (s86 401) = (s86 401) + 3 * 0 by omega) (show 0 ≤ (s86 102) by omega) (Nat.lt_succ_self _)
  intro x99 n100 D101 s102 p103 c104 b105 hS102 f106 hC104 hW107 g108 xe109 kf110 i111 i112 hx113
  show tt Zi d 109 (129, [some (.inr (.inl 0)), some (.inl x99)], [], n100, D101, s102, p103, c104) _
  have FK114 : fk p c n100 p103 c104 [400] := fk_tr FK95 kf110 (by decide)
  replace i111 : (s102 401) = (s86 401) + 3 * x99 := i111
  have b115 : 0 ≤ (s102 401) ∧ (s102 401) ≤ 262144 := hS102 401
  replace i112 : x99 ≤ (s86 102) := i112
  have e116 : s102 102 = (s86 102) := (f106 102 (by decide))
  have b117 : 1 ≤ (s102 102) ∧ (s102 102) ≤ 3 := hS102 102
  exact tt_rtv rfl rfl ⟨n100, D101, s102, p103, c104, rfl, rfl, hS102, hC104, hW107, (fr_tr (fr_tr (fr_tr (fr_tr (fr_tr (fr_tr (fr_tr fr_rf f8 (by decide)) f27 (by decide)) f43 (by decide)) f59 (by decide)) f75 (by decide)) f90 (by decide)) f106 (by decide)), (frp_tr (frp_tr (frp_tr (frp_tr (frp_tr (frp_tr (frp_tr frp_rf g9 (by decide)) g28 (by decide)) g44 (by decide)) g60 (by decide)) g76 (by decide)) g91 (by decide)) g108 (by decide)), (ext_tr (ext_tr (ext_tr (ext_tr (ext_tr (ext_tr (ext_tr ext_rf xe10) xe29) xe45) xe61) xe77) xe92) xe109), FK114, by show (s102 401) ≤ s 401 + 21; omega⟩
set_option maxRecDepth 100000 in
set_option maxHeartbeats 4000000 in
theorem g_writeMeasures_L37 {g : Nat → Int} {Zi : Nat → Option (Nat × (Nat → Int))} {d n q : Nat} {D : Nat → Nat × Nat} {s : Nat → Int} {p : Nat → Nat} {c : Nat → Nat → Int}  {Q : mi_Rs → mi_H → Prop} (hd : 3 ≤ d) (hz : zk Zi) (hq : q + 6 ≤ 400001) (hD : wd n p) (hS : bS s) (hC : bC D c) (hW : wp q g n D p s) (l_ : Int) (b_l_ : 5 ≤ l_ ∧ l_ ≤ 5) (hq0 : s 401 ≤ 200200)
  (hK : ∀ (i : Int) (o_4 : Option mi_V) (n0 : Nat) (D0 : Nat → Nat × Nat) (s0 : Nat → Int) (p0 : Nat → Nat) (c0 : Nat → Nat → Int) (b_i : 0 ≤ i ∧ i ≤ 5) (hS0 : bS s0) (hF0 : fr s s0 [401]) (hC0 : bC D0 c0) (hW0 : wp q g n0 D0 p0 s0) (hP0 : frp p p0 [400]) (hE0 : ext n D n0 D0) (hK0 : fk p c n0 p0 c0 [400]) (i0 : s0 401 = s 401 + 2 * i), (True) → tt Zi d 112 (62, [some (.inr (.inl 0)), some (.inr (.inl 3)), some (.inl l_), some (.inl i), o_4], [], n0, D0, s0, p0, c0) Q) :
  ∀ (m : Nat) (i : Int) (o_4 : Option mi_V) (n0 : Nat) (D0 : Nat → Nat × Nat) (s0 : Nat → Int) (p0 : Nat → Nat) (c0 : Nat → Nat → Int) (b_i : 0 ≤ i ∧ i ≤ 5) (hS0 : bS s0) (hF0 : fr s s0 [401]) (hC0 : bC D0 c0) (hW0 : wp q g n0 D0 p0 s0) (hP0 : frp p p0 [400]) (hE0 : ext n D n0 D0) (hK0 : fk p c n0 p0 c0 [400]) (i0 : s0 401 = s 401 + 2 * i), (5 - i).toNat < m → tt Zi d 112 (37, [some (.inr (.inl 0)), some (.inr (.inl 3)), some (.inl l_), some (.inl i), o_4], [], n0, D0, s0, p0, c0) Q := by
  intro m
  induction m with
  | zero => intro i o_4 n0 D0 s0 p0 c0 b_i hS0 hF0 hC0 hW0 hP0 hE0 hK0 i0 hm; exact absurd hm (by omega)
  | succ m ih =>
    intro i o_4 n0 D0 s0 p0 c0 b_i hS0 hF0 hC0 hW0 hP0 hE0 hK0 i0 hm
    have e1 : s0 102 = s 102 := hF0 102 (by decide)
    have b2 : 1 ≤ (s0 102) ∧ (s0 102) ≤ 3 := hS0 102
    have b3 : 1 ≤ (s 102) ∧ (s 102) ≤ 3 := hS 102
    refine tt_k 2 (S' := (39, [some (.inr (.inl 0)), some (.inr (.inl 3)), some (.inl l_), some (.inl i), o_4], [.inl l_, .inl i], n0, D0, s0, p0, c0)) rfl ?_
    refine tb_ge (x := i) (y := l_) rfl rfl (by omega) (fun h4 => ?_) (fun h4 => ?_)
    · show tt Zi d 112 (62, [some (.inr (.inl 0)), some (.inr (.inl 3)), some (.inl l_), some (.inl i), o_4], [], n0, D0, s0, p0, c0) _
      exact hK i (o_4) n0 D0 s0 p0 c0 (by omega) hS0 hF0 hC0 hW0 hP0 hE0 hK0 (show (s0 401) = s 401 + 2 * i by omega) trivial
    · show tt Zi d 112 (42, [some (.inr (.inl 0)), some (.inr (.inl 3)), some (.inl l_), some (.inl i), o_4], [], n0, D0, s0, p0, c0) _
      refine tt_k 2 (S' := (44, [some (.inr (.inl 0)), some (.inr (.inl 3)), some (.inl l_), some (.inl i), o_4], [.inl i, .inr (.inl 3)], n0, D0, s0, p0, c0)) rfl ?_
      refine tt_ilb (i := i) (m := 5) (lo := 0) (hi := 65535) rfl rfl (by omega) hC0 ⟨rfl, rfl⟩ ?_
      intro v5 b6 hvv5
      show tt Zi d 112 (45, [some (.inr (.inl 0)), some (.inr (.inl 3)), some (.inl l_), some (.inl i), o_4], [.inl v5], n0, D0, s0, p0, c0) _
      refine tt_k 4 (S' := (53, [some (.inr (.inl 0)), some (.inr (.inl 3)), some (.inl l_), some (.inl i), some (.inl v5)], [.inl v5, .inr (.inl 4)], n0, D0, s0, p0, c0)) rfl ?_
      have b7 : 0 ≤ (s0 401) ∧ (s0 401) ≤ 262144 := hS0 401
      refine tt_cl (by omega) rfl (g_addTwo4 (Zi := Zi) (q := q) (n := n0) (D := D0) (s := s0) (p := p0) (c := c0) (by omega) hz (by omega) hK0.1 hS0 hC0 hW0 v5 (by omega) (show (s0 401) ≤ 262142 by omega)) ?_
      rintro _ _ ⟨n8, D9, s10, p11, c12, rfl, rfl, hS10, hC12, hW13, f14, g15, xe16, kf17, k18⟩
      have FK19 : fk p c n8 p11 c12 [400] := fk_tr hK0 kf17 (by decide)
      show tt Zi d 112 (56, [some (.inr (.inl 0)), some (.inr (.inl 3)), some (.inl l_), some (.inl i), some (.inl v5)], [], n8, D9, s10, p11, c12) _
      replace k18 : (s10 401) = (s0 401) + 2 := k18
      have b20 : 0 ≤ (s10 401) ∧ (s10 401) ≤ 262144 := hS10 401
      have e21 : s10 102 = (s0 102) := (f14 102 (by decide))
      have b22 : 1 ≤ (s10 102) ∧ (s10 102) ≤ 3 := hS10 102
      refine tt_k 2 (S' := (37, [some (.inr (.inl 0)), some (.inr (.inl 3)), some (.inl l_), some (.inl (i + 1)), some (.inl v5)], [], n8, D9, s10, p11, c12)) rfl ?_
      exact ih (i + 1) (some (.inl v5)) n8 D9 s10 p11 c12 (by omega) hS10 (fr_tr hF0 f14 (by decide)) hC12 hW13 (frp_tr hP0 g15 (by decide)) (ext_tr hE0 xe16) FK19 (show (s10 401) = s 401 + 2 * (i + 1) by omega) (show (5 - (i + 1)).toNat < m by omega)
set_option maxRecDepth 100000 in
set_option maxHeartbeats 4000000 in
theorem g_writeMeasures {g : Nat → Int} {Zi : Nat → Option (Nat × (Nat → Int))} {d n q : Nat} {D : Nat → Nat × Nat} {s : Nat → Int} {p : Nat → Nat} {c : Nat → Nat → Int} (hd : 3 ≤ d) (hz : zk Zi) (hq : q + 6 ≤ 400000) (hD : wd n p) (hS : bS s) (hC : bC D c) (hW : wp q g n D p s) (hp0 : s 401 ≤ 200100) : tt Zi d 112 (0, [some (.inr (.inl 0)), none, none, none, none], [], n, D, s, p, c) (fun R H => ∃ (n' : Nat) (D' : Nat → Nat × Nat) (s' : Nat → Int) (p' : Nat → Nat) (c' : Nat → Nat → Int), R = .inl none ∧ H = (n', D', s', p', c') ∧ bS s' ∧ bC D' c' ∧ wp q g n' D' p' s' ∧ fr s s' [401] ∧ frp p p' [400] ∧ ext n D n' D' ∧ fk p c n' p' c' [400] ∧ (s' 401 ≤ s 401 + 15)) := by
  refine tt_k 3 (S' := (7, [some (.inr (.inl 0)), none, none, none, none], [.inl 248, .inr (.inl 4)], n, D, s, p, c)) rfl ?_
  have b1 : 0 ≤ (s 401) ∧ (s 401) ≤ 262144 := hS 401
  refine tt_cl (by omega) rfl (g_addMark4 (Zi := Zi) (q := q) (n := n) (D := D) (s := s) (p := p) (c := c) (by omega) hz (by omega) hD hS hC hW 248 (by omega) (show (s 401) ≤ 262142 by omega)) ?_
  rintro _ _ ⟨n2, D3, s4, p5, c6, rfl, rfl, hS4, hC6, hW7, f8, g9, xe10, kf11, k12⟩
  have FK13 : fk p c n2 p5 c6 [400] := fk_tr (fk_rf hD) kf11 (by decide)
  show tt Zi d 112 (10, [some (.inr (.inl 0)), none, none, none, none], [], n2, D3, s4, p5, c6) _
  replace k12 : (s4 401) = (s 401) + 2 := k12
  have b14 : 0 ≤ (s4 401) ∧ (s4 401) ≤ 262144 := hS4 401
  have e15 : s4 102 = (s 102) := (f8 102 (by decide))
  have b16 : 1 ≤ (s4 102) ∧ (s4 102) ≤ 3 := hS4 102
  have b17 : 1 ≤ (s 102) ∧ (s 102) ≤ 3 := hS 102
  refine tt_k 3 (S' := (16, [some (.inr (.inl 0)), none, none, none, none], [.inl 13, .inr (.inl 4)], n2, D3, s4, p5, c6)) rfl ?_
  refine tt_cl (by omega) rfl (g_addTwo4 (Zi := Zi) (q := q) (n := n2) (D := D3) (s := s4) (p := p5) (c := c6) (by omega) hz (by omega) FK13.1 hS4 hC6 hW7 13 (by omega) (show (s4 401) ≤ 262142 by omega)) ?_
  rintro _ _ ⟨n18, D19, s20, p21, c22, rfl, rfl, hS20, hC22, hW23, f24, g25, xe26, kf27, k28⟩
  have FK29 : fk p c n18 p21 c22 [400] := fk_tr FK13 kf27 (by decide)
  show tt Zi d 112 (19, [some (.inr (.inl 0)), none, none, none, none], [], n18, D19, s20, p21, c22) _
  replace k28 : (s20 401) = (s4 401) + 2 := k28
  have b30 : 0 ≤ (s20 401) ∧ (s20 401) ≤ 262144 := hS20 401
  have e31 : s20 102 = (s4 102) := (f24 102 (by decide))
  have b32 : 1 ≤ (s20 102) ∧ (s20 102) ≤ 3 := hS20 102
  refine tt_k 3 (S' := (24, [some (.inr (.inl 0)), none, none, none, none], [.inl 1, .inr (.inl 4)], n18, D19, s20, p21, c22)) rfl ?_
  refine tt_cl (by omega) rfl (g_add4 (Zi := Zi) (q := q) (n := n18) (D := D19) (s := s20) (p := p21) (c := c22) (by omega) hz (by omega) FK29.1 hS20 hC22 hW23 1 (by omega) (show (s20 401) ≤ 262143 by omega)) ?_
  rintro _ _ ⟨n33, D34, s35, p36, c37, rfl, rfl, hS35, hC37, hW38, f39, g40, xe41, kf42, k43⟩
  have FK44 : fk p c n33 p36 c37 [400] := fk_tr FK29 kf42 (by decide)
  show tt Zi d 112 (27, [some (.inr (.inl 0)), none, none, none, none], [], n33, D34, s35, p36, c37) _
  replace k43 : (s35 401) = (s20 401) + 1 := k43
  have b45 : 0 ≤ (s35 401) ∧ (s35 401) ≤ 262144 := hS35 401
  have e46 : s35 102 = (s20 102) := (f39 102 (by decide))
  have b47 : 1 ≤ (s35 102) ∧ (s35 102) ≤ 3 := hS35 102
  refine tt_k 8 (S' := (37, [some (.inr (.inl 0)), some (.inr (.inl 3)), some (.inl 5), some (.inl 0), none], [], n33, D34, s35, p36, c37)) rfl ?_
  refine g_writeMeasures_L37 (Zi := Zi) (q := q) (n := n33) (D := D34) (s := s35) (p := p36) (c := c37) hd hz (by omega) FK44.1 hS35 hC37 hW38  5 (by omega) (show (s35 401) ≤ 200200 by omega)  ?_ _ 0 (none) n33 D34 s35 p36 c37 (by omega) hS35 fr_rf hC37 hW38 frp_rf ext_rf (fk_rf FK44.1) (show (s35 401) = (s35 401) + 2 * 0 by omega) (Nat.lt_succ_self _)
  intro x48 x49 n50 D51 s52 p53 c54 b55 hS52 f56 hC54 hW57 g58 xe59 kf60 i61 hx62
  show tt Zi d 112 (62, [some (.inr (.inl 0)), some (.inr (.inl 3)), some (.inl 5), some (.inl x48), x49], [], n50, D51, s52, p53, c54) _
  have FK63 : fk p c n50 p53 c54 [400] := fk_tr FK44 kf60 (by decide)
  replace i61 : (s52 401) = (s35 401) + 2 * x48 := i61
  have b64 : 0 ≤ (s52 401) ∧ (s52 401) ≤ 262144 := hS52 401
  have e65 : s52 102 = (s35 102) := (f56 102 (by decide))
  have b66 : 1 ≤ (s52 102) ∧ (s52 102) ≤ 3 := hS52 102
  exact tt_rtv rfl rfl ⟨n50, D51, s52, p53, c54, rfl, rfl, hS52, hC54, hW57, (fr_tr (fr_tr (fr_tr (fr_tr fr_rf f8 (by decide)) f24 (by decide)) f39 (by decide)) f56 (by decide)), (frp_tr (frp_tr (frp_tr (frp_tr frp_rf g9 (by decide)) g25 (by decide)) g40 (by decide)) g58 (by decide)), (ext_tr (ext_tr (ext_tr (ext_tr ext_rf xe10) xe26) xe41) xe59), FK63, by show (s52 401) ≤ s 401 + 15; omega⟩
set_option maxRecDepth 100000 in
set_option maxHeartbeats 4000000 in
theorem g_writeScan {g : Nat → Int} {Zi : Nat → Option (Nat × (Nat → Int))} {d n q : Nat} {D : Nat → Nat × Nat} {s : Nat → Int} {p : Nat → Nat} {c : Nat → Nat → Int} (hd : 3 ≤ d) (hz : zk Zi) (hq : q + 6 ≤ 400000) (hD : wd n p) (hS : bS s) (hC : bC D c) (hW : wp q g n D p s) (pn : Int) (nr : Int) (b_pn : 0 ≤ pn ∧ pn ≤ 2) (b_nr : -2147483648 ≤ nr ∧ nr ≤ 2147483647) (hp0 : s 401 ≤ 200100) : tt Zi d 113 (0, [some (.inr (.inl 0)), some (.inl pn), some (.inl nr)], [], n, D, s, p, c) (fun R H => ∃ (n' : Nat) (D' : Nat → Nat × Nat) (s' : Nat → Int) (p' : Nat → Nat) (c' : Nat → Nat → Int), R = .inl none ∧ H = (n', D', s', p', c') ∧ bS s' ∧ bC D' c' ∧ wp q g n' D' p' s' ∧ fr s s' [401] ∧ frp p p' [400] ∧ ext n D n' D' ∧ fk p c n' p' c' [400] ∧ (s' 401 ≤ s 401 + 10)) := by
  refine tt_k 3 (S' := (7, [some (.inr (.inl 0)), some (.inl pn), some (.inl nr)], [.inl 218, .inr (.inl 4)], n, D, s, p, c)) rfl ?_
  have b1 : 0 ≤ (s 401) ∧ (s 401) ≤ 262144 := hS 401
  refine tt_cl (by omega) rfl (g_addMark4 (Zi := Zi) (q := q) (n := n) (D := D) (s := s) (p := p) (c := c) (by omega) hz (by omega) hD hS hC hW 218 (by omega) (show (s 401) ≤ 262142 by omega)) ?_
  rintro _ _ ⟨n2, D3, s4, p5, c6, rfl, rfl, hS4, hC6, hW7, f8, g9, xe10, kf11, k12⟩
  have FK13 : fk p c n2 p5 c6 [400] := fk_tr (fk_rf hD) kf11 (by decide)
  show tt Zi d 113 (10, [some (.inr (.inl 0)), some (.inl pn), some (.inl nr)], [], n2, D3, s4, p5, c6) _
  replace k12 : (s4 401) = (s 401) + 2 := k12
  have b14 : 0 ≤ (s4 401) ∧ (s4 401) ≤ 262144 := hS4 401
  have e15 : s4 102 = (s 102) := (f8 102 (by decide))
  have b16 : 1 ≤ (s4 102) ∧ (s4 102) ≤ 3 := hS4 102
  have b17 : 1 ≤ (s 102) ∧ (s 102) ≤ 3 := hS 102
  refine tt_k 3 (S' := (16, [some (.inr (.inl 0)), some (.inl pn), some (.inl nr)], [.inl 8, .inr (.inl 4)], n2, D3, s4, p5, c6)) rfl ?_
  refine tt_cl (by omega) rfl (g_addTwo4 (Zi := Zi) (q := q) (n := n2) (D := D3) (s := s4) (p := p5) (c := c6) (by omega) hz (by omega) FK13.1 hS4 hC6 hW7 8 (by omega) (show (s4 401) ≤ 262142 by omega)) ?_
  rintro _ _ ⟨n18, D19, s20, p21, c22, rfl, rfl, hS20, hC22, hW23, f24, g25, xe26, kf27, k28⟩
  have FK29 : fk p c n18 p21 c22 [400] := fk_tr FK13 kf27 (by decide)
  show tt Zi d 113 (19, [some (.inr (.inl 0)), some (.inl pn), some (.inl nr)], [], n18, D19, s20, p21, c22) _
  replace k28 : (s20 401) = (s4 401) + 2 := k28
  have b30 : 0 ≤ (s20 401) ∧ (s20 401) ≤ 262144 := hS20 401
  have e31 : s20 102 = (s4 102) := (f24 102 (by decide))
  have b32 : 1 ≤ (s20 102) ∧ (s20 102) ≤ 3 := hS20 102
  refine tt_k 3 (S' := (24, [some (.inr (.inl 0)), some (.inl pn), some (.inl nr)], [.inl 1, .inr (.inl 4)], n18, D19, s20, p21, c22)) rfl ?_
  refine tt_cl (by omega) rfl (g_add4 (Zi := Zi) (q := q) (n := n18) (D := D19) (s := s20) (p := p21) (c := c22) (by omega) hz (by omega) FK29.1 hS20 hC22 hW23 1 (by omega) (show (s20 401) ≤ 262143 by omega)) ?_
  rintro _ _ ⟨n33, D34, s35, p36, c37, rfl, rfl, hS35, hC37, hW38, f39, g40, xe41, kf42, k43⟩
  have FK44 : fk p c n33 p36 c37 [400] := fk_tr FK29 kf42 (by decide)
  show tt Zi d 113 (27, [some (.inr (.inl 0)), some (.inl pn), some (.inl nr)], [], n33, D34, s35, p36, c37) _
  replace k43 : (s35 401) = (s20 401) + 1 := k43
  have b45 : 0 ≤ (s35 401) ∧ (s35 401) ≤ 262144 := hS35 401
  have e46 : s35 102 = (s20 102) := (f39 102 (by decide))
  have b47 : 1 ≤ (s35 102) ∧ (s35 102) ≤ 3 := hS35 102
  refine tt_k 5 (S' := (34, [some (.inr (.inl 0)), some (.inl pn), some (.inl nr)], [.inl (pn + 1), .inr (.inl 4)], n33, D34, s35, p36, c37)) rfl ?_
  refine tt_cl (by omega) rfl (g_add4 (Zi := Zi) (q := q) (n := n33) (D := D34) (s := s35) (p := p36) (c := c37) (by omega) hz (by omega) FK44.1 hS35 hC37 hW38 (pn + 1) (by omega) (show (s35 401) ≤ 262143 by omega)) ?_
  rintro _ _ ⟨n48, D49, s50, p51, c52, rfl, rfl, hS50, hC52, hW53, f54, g55, xe56, kf57, k58⟩
  have FK59 : fk p c n48 p51 c52 [400] := fk_tr FK44 kf57 (by decide)
  show tt Zi d 113 (37, [some (.inr (.inl 0)), some (.inl pn), some (.inl nr)], [], n48, D49, s50, p51, c52) _
  replace k58 : (s50 401) = (s35 401) + 1 := k58
  have b60 : 0 ≤ (s50 401) ∧ (s50 401) ≤ 262144 := hS50 401
  have e61 : s50 102 = (s35 102) := (f54 102 (by decide))
  have b62 : 1 ≤ (s50 102) ∧ (s50 102) ≤ 3 := hS50 102
  refine tt_k 3 (S' := (42, [some (.inr (.inl 0)), some (.inl pn), some (.inl nr)], [.inl 0, .inr (.inl 4)], n48, D49, s50, p51, c52)) rfl ?_
  refine tt_cl (by omega) rfl (g_add4 (Zi := Zi) (q := q) (n := n48) (D := D49) (s := s50) (p := p51) (c := c52) (by omega) hz (by omega) FK59.1 hS50 hC52 hW53 0 (by omega) (show (s50 401) ≤ 262143 by omega)) ?_
  rintro _ _ ⟨n63, D64, s65, p66, c67, rfl, rfl, hS65, hC67, hW68, f69, g70, xe71, kf72, k73⟩
  have FK74 : fk p c n63 p66 c67 [400] := fk_tr FK59 kf72 (by decide)
  show tt Zi d 113 (45, [some (.inr (.inl 0)), some (.inl pn), some (.inl nr)], [], n63, D64, s65, p66, c67) _
  replace k73 : (s65 401) = (s50 401) + 1 := k73
  have b75 : 0 ≤ (s65 401) ∧ (s65 401) ≤ 262144 := hS65 401
  have e76 : s65 102 = (s50 102) := (f69 102 (by decide))
  have b77 : 1 ≤ (s65 102) ∧ (s65 102) ≤ 3 := hS65 102
  refine tt_k 3 (S' := (50, [some (.inr (.inl 0)), some (.inl pn), some (.inl nr)], [.inl nr, .inr (.inl 4)], n63, D64, s65, p66, c67)) rfl ?_
  refine tt_cl (by omega) rfl (g_add4 (Zi := Zi) (q := q) (n := n63) (D := D64) (s := s65) (p := p66) (c := c67) (by omega) hz (by omega) FK74.1 hS65 hC67 hW68 nr (by omega) (show (s65 401) ≤ 262143 by omega)) ?_
  rintro _ _ ⟨n78, D79, s80, p81, c82, rfl, rfl, hS80, hC82, hW83, f84, g85, xe86, kf87, k88⟩
  have FK89 : fk p c n78 p81 c82 [400] := fk_tr FK74 kf87 (by decide)
  show tt Zi d 113 (53, [some (.inr (.inl 0)), some (.inl pn), some (.inl nr)], [], n78, D79, s80, p81, c82) _
  replace k88 : (s80 401) = (s65 401) + 1 := k88
  have b90 : 0 ≤ (s80 401) ∧ (s80 401) ≤ 262144 := hS80 401
  have e91 : s80 102 = (s65 102) := (f84 102 (by decide))
  have b92 : 1 ≤ (s80 102) ∧ (s80 102) ≤ 3 := hS80 102
  refine tt_k 3 (S' := (58, [some (.inr (.inl 0)), some (.inl pn), some (.inl nr)], [.inl 0, .inr (.inl 4)], n78, D79, s80, p81, c82)) rfl ?_
  refine tt_cl (by omega) rfl (g_add4 (Zi := Zi) (q := q) (n := n78) (D := D79) (s := s80) (p := p81) (c := c82) (by omega) hz (by omega) FK89.1 hS80 hC82 hW83 0 (by omega) (show (s80 401) ≤ 262143 by omega)) ?_
  rintro _ _ ⟨n93, D94, s95, p96, c97, rfl, rfl, hS95, hC97, hW98, f99, g100, xe101, kf102, k103⟩
  have FK104 : fk p c n93 p96 c97 [400] := fk_tr FK89 kf102 (by decide)
  show tt Zi d 113 (61, [some (.inr (.inl 0)), some (.inl pn), some (.inl nr)], [], n93, D94, s95, p96, c97) _
  replace k103 : (s95 401) = (s80 401) + 1 := k103
  have b105 : 0 ≤ (s95 401) ∧ (s95 401) ≤ 262144 := hS95 401
  have e106 : s95 102 = (s80 102) := (f99 102 (by decide))
  have b107 : 1 ≤ (s95 102) ∧ (s95 102) ≤ 3 := hS95 102
  refine tt_k 3 (S' := (66, [some (.inr (.inl 0)), some (.inl pn), some (.inl nr)], [.inl 0, .inr (.inl 4)], n93, D94, s95, p96, c97)) rfl ?_
  refine tt_cl (by omega) rfl (g_add4 (Zi := Zi) (q := q) (n := n93) (D := D94) (s := s95) (p := p96) (c := c97) (by omega) hz (by omega) FK104.1 hS95 hC97 hW98 0 (by omega) (show (s95 401) ≤ 262143 by omega)) ?_
  rintro _ _ ⟨n108, D109, s110, p111, c112, rfl, rfl, hS110, hC112, hW113, f114, g115, xe116, kf117, k118⟩
  have FK119 : fk p c n108 p111 c112 [400] := fk_tr FK104 kf117 (by decide)
  show tt Zi d 113 (69, [some (.inr (.inl 0)), some (.inl pn), some (.inl nr)], [], n108, D109, s110, p111, c112) _
  replace k118 : (s110 401) = (s95 401) + 1 := k118
  have b120 : 0 ≤ (s110 401) ∧ (s110 401) ≤ 262144 := hS110 401
  have e121 : s110 102 = (s95 102) := (f114 102 (by decide))
  have b122 : 1 ≤ (s110 102) ∧ (s110 102) ≤ 3 := hS110 102
  exact tt_rtv rfl rfl ⟨n108, D109, s110, p111, c112, rfl, rfl, hS110, hC112, hW113, (fr_tr (fr_tr (fr_tr (fr_tr (fr_tr (fr_tr (fr_tr (fr_tr fr_rf f8 (by decide)) f24 (by decide)) f39 (by decide)) f54 (by decide)) f69 (by decide)) f84 (by decide)) f99 (by decide)) f114 (by decide)), (frp_tr (frp_tr (frp_tr (frp_tr (frp_tr (frp_tr (frp_tr (frp_tr frp_rf g9 (by decide)) g25 (by decide)) g40 (by decide)) g55 (by decide)) g70 (by decide)) g85 (by decide)) g100 (by decide)) g115 (by decide)), (ext_tr (ext_tr (ext_tr (ext_tr (ext_tr (ext_tr (ext_tr (ext_tr ext_rf xe10) xe26) xe41) xe56) xe71) xe86) xe101) xe116), FK119, by show (s110 401) ≤ s 401 + 10; omega⟩
