/-! the class writes headers -/
theorem wp_pp1 {g : Nat → Int} {q n : Nat} {D : Nat → Nat × Nat} {p : Nat → Nat} {s : Nat → Int} (h : wp q g n D p s) : wp q g n D (up (up p 8 27) 9 25) s := ⟨h.nb, h.dz, h.r4, h.r6, h.c4, h.c6, h.p1, h.p25, h.p27, h.w1, h.w25, h.w27, h.m9, h.a12, h.a21, Or.inr ⟨rfl, rfl⟩, h.s12, h.s21, h.wo, h.gz⟩
theorem wp_pp2 {g : Nat → Int} {q n : Nat} {D : Nat → Nat × Nat} {p : Nat → Nat} {s : Nat → Int} (h : wp q g n D p s) : wp q g n D (up (up p 8 25) 9 27) s := ⟨h.nb, h.dz, h.r4, h.r6, h.c4, h.c6, h.p1, h.p25, h.p27, h.w1, h.w25, h.w27, h.m9, h.a12, h.a21, Or.inl ⟨rfl, rfl⟩, h.s12, h.s21, h.wo, h.gz⟩
theorem wo_of {g : Nat → Int} {q n : Nat} {D : Nat → Nat × Nat} {p : Nat → Nat} {s : Nat → Int} (hS : bS s) (h : wp q g n D p s) : wo s := by
  have h1 : 1 ≤ s 1602 ∧ s 1602 ≤ 8 := hS 1602
  rcases h.wo with h2 | h2
  · omega
  · exact h2
set_option maxRecDepth 100000 in
set_option maxHeartbeats 4000000 in
theorem g_hasChosen_L10 {g : Nat → Int} {Zi : Nat → Option (Nat × (Nat → Int))} {d n q : Nat} {D : Nat → Nat × Nat} {s : Nat → Int} {p : Nat → Nat} {c : Nat → Nat → Int}  {Q : mi_Rs → mi_H → Prop} (hd : 0 ≤ d) (hz : zk Zi) (hq : q + 0 ≤ 400001) (hS : bS s) (hC : bC D c) (hW : wp q g n D p s) (l_ : Int) (b_l_ : 5 ≤ l_ ∧ l_ ≤ 5) (hR : Q (.inl (some (.inl 1))) (n, D, s, p, c))
  (hK : ∀ (i : Int) (o_4 : Option mi_V) (b_i : 0 ≤ i ∧ i ≤ 5), (True) → tt Zi d 111 (33, [some (.inr (.inl 0)), some (.inr (.inl 3)), some (.inl l_), some (.inl i), o_4], [], n, D, s, p, c) Q) :
  ∀ (m : Nat) (i : Int) (o_4 : Option mi_V) (b_i : 0 ≤ i ∧ i ≤ 5), (5 - i).toNat < m → tt Zi d 111 (10, [some (.inr (.inl 0)), some (.inr (.inl 3)), some (.inl l_), some (.inl i), o_4], [], n, D, s, p, c) Q := by
  intro m
  induction m with
  | zero => intro i o_4 b_i hm; exact absurd hm (by omega)
  | succ m ih =>
    intro i o_4 b_i hm
    refine tt_k 2 (S' := (12, [some (.inr (.inl 0)), some (.inr (.inl 3)), some (.inl l_), some (.inl i), o_4], [.inl l_, .inl i], n, D, s, p, c)) rfl ?_
    refine tb_ge (x := i) (y := l_) rfl rfl (by omega) (fun h1 => ?_) (fun h1 => ?_)
    · show tt Zi d 111 (33, [some (.inr (.inl 0)), some (.inr (.inl 3)), some (.inl l_), some (.inl i), o_4], [], n, D, s, p, c) _
      exact hK i (o_4) (by omega) trivial
    · show tt Zi d 111 (15, [some (.inr (.inl 0)), some (.inr (.inl 3)), some (.inl l_), some (.inl i), o_4], [], n, D, s, p, c) _
      refine tt_k 2 (S' := (17, [some (.inr (.inl 0)), some (.inr (.inl 3)), some (.inl l_), some (.inl i), o_4], [.inl i, .inr (.inl 3)], n, D, s, p, c)) rfl ?_
      refine tt_ilb (i := i) (m := 5) (lo := 0) (hi := 65535) rfl rfl (by omega) hC ⟨rfl, rfl⟩ ?_
      intro v2 b3
      show tt Zi d 111 (18, [some (.inr (.inl 0)), some (.inr (.inl 3)), some (.inl l_), some (.inl i), o_4], [.inl v2], n, D, s, p, c) _
      refine tt_k 2 (S' := (22, [some (.inr (.inl 0)), some (.inr (.inl 3)), some (.inl l_), some (.inl i), some (.inl v2)], [.inl v2], n, D, s, p, c)) rfl ?_
      refine tz_eq (x := v2) rfl rfl (by omega) (fun h4 => ?_) (fun h4 => ?_)
      · show tt Zi d 111 (27, [some (.inr (.inl 0)), some (.inr (.inl 3)), some (.inl l_), some (.inl i), some (.inl v2)], [], n, D, s, p, c) _
        refine tt_k 2 (S' := (10, [some (.inr (.inl 0)), some (.inr (.inl 3)), some (.inl l_), some (.inl (i + 1)), some (.inl v2)], [], n, D, s, p, c)) rfl ?_
        exact ih (i + 1) (some (.inl v2)) (by omega) (show (5 - (i + 1)).toNat < m by omega)
      · show tt Zi d 111 (25, [some (.inr (.inl 0)), some (.inr (.inl 3)), some (.inl l_), some (.inl i), some (.inl v2)], [], n, D, s, p, c) _
        refine tt_k 1 (S' := (26, [some (.inr (.inl 0)), some (.inr (.inl 3)), some (.inl l_), some (.inl i), some (.inl v2)], [.inl 1], n, D, s, p, c)) rfl ?_
        exact tt_rtb rfl rfl (by omega) hR
set_option maxRecDepth 100000 in
set_option maxHeartbeats 4000000 in
theorem g_hasChosen {g : Nat → Int} {Zi : Nat → Option (Nat × (Nat → Int))} {d n q : Nat} {D : Nat → Nat × Nat} {s : Nat → Int} {p : Nat → Nat} {c : Nat → Nat → Int} (hd : 0 ≤ d) (hz : zk Zi) (hq : q + 0 ≤ 400000) (hS : bS s) (hC : bC D c) (hW : wp q g n D p s)  : tt Zi d 111 (0, [some (.inr (.inl 0)), none, none, none, none], [], n, D, s, p, c) (fun R H => ∃ (r : Int), R = .inl (some (.inl r)) ∧ H = (n, D, s, p, c) ∧ (0 ≤ r ∧ r ≤ 1)) := by
  refine tt_k 8 (S' := (10, [some (.inr (.inl 0)), some (.inr (.inl 3)), some (.inl 5), some (.inl 0), none], [], n, D, s, p, c)) rfl ?_
  refine g_hasChosen_L10 (Zi := Zi) (q := q) (n := n) (D := D) (s := s) (p := p) (c := c) hd hz (by omega) hS hC hW  5 (by omega)  ⟨1, rfl, rfl, by omega⟩ ?_ _ 0 (none) (by omega) (Nat.lt_succ_self _)
  intro x1 x2 b3 hx4
  show tt Zi d 111 (33, [some (.inr (.inl 0)), some (.inr (.inl 3)), some (.inl 5), some (.inl x1), x2], [], n, D, s, p, c) _
  refine tt_k 1 (S' := (34, [some (.inr (.inl 0)), some (.inr (.inl 3)), some (.inl 5), some (.inl x1), x2], [.inl 0], n, D, s, p, c)) rfl ?_
  exact tt_rtb rfl rfl (by omega) ⟨0, rfl, rfl, by omega⟩
set_option maxRecDepth 100000 in
set_option maxHeartbeats 4000000 in
theorem g_writeFrame_L85 {g : Nat → Int} {Zi : Nat → Option (Nat × (Nat → Int))} {d n q : Nat} {D : Nat → Nat × Nat} {s : Nat → Int} {p : Nat → Nat} {c : Nat → Nat → Int}  {Q : mi_Rs → mi_H → Prop} (hd : 3 ≤ d) (hz : zk Zi) (hq : q + 6 ≤ 400001) (hS : bS s) (hC : bC D c) (hW : wp q g n D p s) (hq0 : s 401 ≤ 200200)
  (hK : ∀ (pn : Int) (n0 : Nat) (D0 : Nat → Nat × Nat) (s0 : Nat → Int) (p0 : Nat → Nat) (c0 : Nat → Nat → Int) (b_pn : 0 ≤ pn ∧ pn ≤ 3) (hS0 : bS s0) (hF0 : fr s s0 [401]) (hC0 : bC D0 c0) (hW0 : wp q g n0 D0 p0 s0) (hP0 : frp p p0 [400]) (hE0 : ext n D n0 D0) (i0 : s0 401 = s 401 + 3 * pn) (i1 : pn ≤ s 102), (True) → tt Zi d 109 (129, [some (.inr (.inl 0)), some (.inl pn)], [], n0, D0, s0, p0, c0) Q) :
  ∀ (m : Nat) (pn : Int) (n0 : Nat) (D0 : Nat → Nat × Nat) (s0 : Nat → Int) (p0 : Nat → Nat) (c0 : Nat → Nat → Int) (b_pn : 0 ≤ pn ∧ pn ≤ 3) (hS0 : bS s0) (hF0 : fr s s0 [401]) (hC0 : bC D0 c0) (hW0 : wp q g n0 D0 p0 s0) (hP0 : frp p p0 [400]) (hE0 : ext n D n0 D0) (i0 : s0 401 = s 401 + 3 * pn) (i1 : pn ≤ s 102), (s 102 - pn).toNat < m → tt Zi d 109 (85, [some (.inr (.inl 0)), some (.inl pn)], [], n0, D0, s0, p0, c0) Q := by
  intro m
  induction m with
  | zero => intro pn n0 D0 s0 p0 c0 b_pn hS0 hF0 hC0 hW0 hP0 hE0 i0 i1 hm; exact absurd hm (by omega)
  | succ m ih =>
    intro pn n0 D0 s0 p0 c0 b_pn hS0 hF0 hC0 hW0 hP0 hE0 i0 i1 hm
    have e1 : s0 102 = s 102 := hF0 102 (by decide)
    have b2 : 1 ≤ (s0 102) ∧ (s0 102) ≤ 3 := hS0 102
    have b3 : 1 ≤ (s 102) ∧ (s 102) ≤ 3 := hS 102
    refine tt_k 4 (S' := (93, [some (.inr (.inl 0)), some (.inl pn)], [.inl (s0 102), .inl pn], n0, D0, s0, p0, c0)) rfl ?_
    refine tb_ge (x := pn) (y := (s0 102)) rfl rfl (by omega) (fun h4 => ?_) (fun h4 => ?_)
    · show tt Zi d 109 (129, [some (.inr (.inl 0)), some (.inl pn)], [], n0, D0, s0, p0, c0) _
      exact hK pn n0 D0 s0 p0 c0 (by omega) hS0 hF0 hC0 hW0 hP0 hE0 (show (s0 401) = s 401 + 3 * pn by omega) (show pn ≤ s 102 by omega) trivial
    · show tt Zi d 109 (96, [some (.inr (.inl 0)), some (.inl pn)], [], n0, D0, s0, p0, c0) _
      refine tt_k 5 (S' := (103, [some (.inr (.inl 0)), some (.inl pn)], [.inl (pn + 1), .inr (.inl 4)], n0, D0, s0, p0, c0)) rfl ?_
      have b5 : 0 ≤ (s0 401) ∧ (s0 401) ≤ 262144 := hS0 401
      refine tt_cl (by omega) rfl (g_add4 (Zi := Zi) (q := q) (n := n0) (D := D0) (s := s0) (p := p0) (c := c0) (by omega) hz (by omega) hS0 hC0 hW0 (pn + 1) (by omega) (show (s0 401) ≤ 262143 by omega)) ?_
      rintro _ _ ⟨n6, D7, s8, p9, c10, rfl, rfl, hS8, hC10, hW11, f12, g13, xe14, k15⟩
      show tt Zi d 109 (106, [some (.inr (.inl 0)), some (.inl pn)], [], n6, D7, s8, p9, c10) _
      replace k15 : (s8 401) = (s0 401) + 1 := k15
      have b16 : 0 ≤ (s8 401) ∧ (s8 401) ≤ 262144 := hS8 401
      have e17 : s8 102 = (s0 102) := (f12 102 (by decide))
      have b18 : 1 ≤ (s8 102) ∧ (s8 102) ≤ 3 := hS8 102
      refine tt_k 3 (S' := (112, [some (.inr (.inl 0)), some (.inl pn)], [.inl 17, .inr (.inl 4)], n6, D7, s8, p9, c10)) rfl ?_
      refine tt_cl (by omega) rfl (g_add4 (Zi := Zi) (q := q) (n := n6) (D := D7) (s := s8) (p := p9) (c := c10) (by omega) hz (by omega) hS8 hC10 hW11 17 (by omega) (show (s8 401) ≤ 262143 by omega)) ?_
      rintro _ _ ⟨n19, D20, s21, p22, c23, rfl, rfl, hS21, hC23, hW24, f25, g26, xe27, k28⟩
      show tt Zi d 109 (115, [some (.inr (.inl 0)), some (.inl pn)], [], n19, D20, s21, p22, c23) _
      replace k28 : (s21 401) = (s8 401) + 1 := k28
      have b29 : 0 ≤ (s21 401) ∧ (s21 401) ≤ 262144 := hS21 401
      have e30 : s21 102 = (s8 102) := (f25 102 (by decide))
      have b31 : 1 ≤ (s21 102) ∧ (s21 102) ≤ 3 := hS21 102
      refine tt_k 3 (S' := (120, [some (.inr (.inl 0)), some (.inl pn)], [.inl 0, .inr (.inl 4)], n19, D20, s21, p22, c23)) rfl ?_
      refine tt_cl (by omega) rfl (g_add4 (Zi := Zi) (q := q) (n := n19) (D := D20) (s := s21) (p := p22) (c := c23) (by omega) hz (by omega) hS21 hC23 hW24 0 (by omega) (show (s21 401) ≤ 262143 by omega)) ?_
      rintro _ _ ⟨n32, D33, s34, p35, c36, rfl, rfl, hS34, hC36, hW37, f38, g39, xe40, k41⟩
      show tt Zi d 109 (123, [some (.inr (.inl 0)), some (.inl pn)], [], n32, D33, s34, p35, c36) _
      replace k41 : (s34 401) = (s21 401) + 1 := k41
      have b42 : 0 ≤ (s34 401) ∧ (s34 401) ≤ 262144 := hS34 401
      have e43 : s34 102 = (s21 102) := (f38 102 (by decide))
      have b44 : 1 ≤ (s34 102) ∧ (s34 102) ≤ 3 := hS34 102
      refine tt_k 2 (S' := (85, [some (.inr (.inl 0)), some (.inl (pn + 1))], [], n32, D33, s34, p35, c36)) rfl ?_
      exact ih (pn + 1) n32 D33 s34 p35 c36 (by omega) hS34 (fr_tr (fr_tr (fr_tr hF0 f12 (by decide)) f25 (by decide)) f38 (by decide)) hC36 hW37 (frp_tr (frp_tr (frp_tr hP0 g13 (by decide)) g26 (by decide)) g39 (by decide)) (ext_tr (ext_tr (ext_tr hE0 xe14) xe27) xe40) (show (s34 401) = s 401 + 3 * (pn + 1) by omega) (show (pn + 1) ≤ s 102 by omega) (show (s 102 - (pn + 1)).toNat < m by omega)
set_option maxRecDepth 100000 in
set_option maxHeartbeats 4000000 in
theorem g_writeFrame {g : Nat → Int} {Zi : Nat → Option (Nat × (Nat → Int))} {d n q : Nat} {D : Nat → Nat × Nat} {s : Nat → Int} {p : Nat → Nat} {c : Nat → Nat → Int} (hd : 3 ≤ d) (hz : zk Zi) (hq : q + 6 ≤ 400000) (hS : bS s) (hC : bC D c) (hW : wp q g n D p s) (hp0 : s 401 ≤ 200100) : tt Zi d 109 (0, [some (.inr (.inl 0)), none], [], n, D, s, p, c) (fun R H => ∃ (n' : Nat) (D' : Nat → Nat × Nat) (s' : Nat → Int) (p' : Nat → Nat) (c' : Nat → Nat → Int), R = .inl none ∧ H = (n', D', s', p', c') ∧ bS s' ∧ bC D' c' ∧ wp q g n' D' p' s' ∧ fr s s' [401] ∧ frp p p' [400] ∧ ext n D n' D' ∧ (s' 401 ≤ s 401 + 21)) := by
  refine tt_k 3 (S' := (7, [some (.inr (.inl 0)), none], [.inl 247, .inr (.inl 4)], n, D, s, p, c)) rfl ?_
  have b1 : 0 ≤ (s 401) ∧ (s 401) ≤ 262144 := hS 401
  refine tt_cl (by omega) rfl (g_addMark4 (Zi := Zi) (q := q) (n := n) (D := D) (s := s) (p := p) (c := c) (by omega) hz (by omega) hS hC hW 247 (by omega) (show (s 401) ≤ 262142 by omega)) ?_
  rintro _ _ ⟨n2, D3, s4, p5, c6, rfl, rfl, hS4, hC6, hW7, f8, g9, xe10, k11⟩
  show tt Zi d 109 (10, [some (.inr (.inl 0)), none], [], n2, D3, s4, p5, c6) _
  replace k11 : (s4 401) = (s 401) + 2 := k11
  have b12 : 0 ≤ (s4 401) ∧ (s4 401) ≤ 262144 := hS4 401
  have e13 : s4 102 = (s 102) := (f8 102 (by decide))
  have b14 : 1 ≤ (s4 102) ∧ (s4 102) ≤ 3 := hS4 102
  have b15 : 1 ≤ (s 102) ∧ (s 102) ≤ 3 := hS 102
  refine tt_k 5 (S' := (21, [some (.inr (.inl 0)), none], [.inl (s4 102), .inr (.inl 4)], n2, D3, s4, p5, c6)) rfl ?_
  refine tt_cl (by omega) rfl (g_frameLength (Zi := Zi) (q := q) (n := n2) (D := D3) (s := s4) (p := p5) (c := c6) (by omega) hz (by omega) hS4 hC6 hW7 (s4 102) (by omega)) ?_
  rintro _ _ ⟨r16, rfl, rfl, b17, k18⟩
  show tt Zi d 109 (24, [some (.inr (.inl 0)), none], [.inl r16, .inr (.inl 4)], n2, D3, s4, p5, c6) _
  replace k18 : r16 = 8 + 3 * (s4 102) := k18
  refine tt_cl (by omega) rfl (g_addTwo4 (Zi := Zi) (q := q) (n := n2) (D := D3) (s := s4) (p := p5) (c := c6) (by omega) hz (by omega) hS4 hC6 hW7 r16 (by omega) (show (s4 401) ≤ 262142 by omega)) ?_
  rintro _ _ ⟨n19, D20, s21, p22, c23, rfl, rfl, hS21, hC23, hW24, f25, g26, xe27, k28⟩
  show tt Zi d 109 (27, [some (.inr (.inl 0)), none], [], n19, D20, s21, p22, c23) _
  replace k28 : (s21 401) = (s4 401) + 2 := k28
  have b29 : 0 ≤ (s21 401) ∧ (s21 401) ≤ 262144 := hS21 401
  have e30 : s21 102 = (s4 102) := (f25 102 (by decide))
  have b31 : 1 ≤ (s21 102) ∧ (s21 102) ≤ 3 := hS21 102
  refine tt_k 5 (S' := (38, [some (.inr (.inl 0)), none], [.inl (s21 103), .inr (.inl 4)], n19, D20, s21, p22, c23)) rfl ?_
  have b32 : 2 ≤ (s21 103) ∧ (s21 103) ≤ 16 := hS21 103
  refine tt_cl (by omega) rfl (g_add4 (Zi := Zi) (q := q) (n := n19) (D := D20) (s := s21) (p := p22) (c := c23) (by omega) hz (by omega) hS21 hC23 hW24 (s21 103) (by omega) (show (s21 401) ≤ 262143 by omega)) ?_
  rintro _ _ ⟨n33, D34, s35, p36, c37, rfl, rfl, hS35, hC37, hW38, f39, g40, xe41, k42⟩
  show tt Zi d 109 (41, [some (.inr (.inl 0)), none], [], n33, D34, s35, p36, c37) _
  replace k42 : (s35 401) = (s21 401) + 1 := k42
  have b43 : 0 ≤ (s35 401) ∧ (s35 401) ≤ 262144 := hS35 401
  have e44 : s35 102 = (s21 102) := (f39 102 (by decide))
  have b45 : 1 ≤ (s35 102) ∧ (s35 102) ≤ 3 := hS35 102
  refine tt_k 5 (S' := (52, [some (.inr (.inl 0)), none], [.inl (s35 101), .inr (.inl 4)], n33, D34, s35, p36, c37)) rfl ?_
  have b46 : 1 ≤ (s35 101) ∧ (s35 101) ≤ 64 := hS35 101
  refine tt_cl (by omega) rfl (g_addTwo4 (Zi := Zi) (q := q) (n := n33) (D := D34) (s := s35) (p := p36) (c := c37) (by omega) hz (by omega) hS35 hC37 hW38 (s35 101) (by omega) (show (s35 401) ≤ 262142 by omega)) ?_
  rintro _ _ ⟨n47, D48, s49, p50, c51, rfl, rfl, hS49, hC51, hW52, f53, g54, xe55, k56⟩
  show tt Zi d 109 (55, [some (.inr (.inl 0)), none], [], n47, D48, s49, p50, c51) _
  replace k56 : (s49 401) = (s35 401) + 2 := k56
  have b57 : 0 ≤ (s49 401) ∧ (s49 401) ≤ 262144 := hS49 401
  have e58 : s49 102 = (s35 102) := (f53 102 (by decide))
  have b59 : 1 ≤ (s49 102) ∧ (s49 102) ≤ 3 := hS49 102
  refine tt_k 5 (S' := (66, [some (.inr (.inl 0)), none], [.inl (s49 100), .inr (.inl 4)], n47, D48, s49, p50, c51)) rfl ?_
  have b60 : 1 ≤ (s49 100) ∧ (s49 100) ≤ 64 := hS49 100
  refine tt_cl (by omega) rfl (g_addTwo4 (Zi := Zi) (q := q) (n := n47) (D := D48) (s := s49) (p := p50) (c := c51) (by omega) hz (by omega) hS49 hC51 hW52 (s49 100) (by omega) (show (s49 401) ≤ 262142 by omega)) ?_
  rintro _ _ ⟨n61, D62, s63, p64, c65, rfl, rfl, hS63, hC65, hW66, f67, g68, xe69, k70⟩
  show tt Zi d 109 (69, [some (.inr (.inl 0)), none], [], n61, D62, s63, p64, c65) _
  replace k70 : (s63 401) = (s49 401) + 2 := k70
  have b71 : 0 ≤ (s63 401) ∧ (s63 401) ≤ 262144 := hS63 401
  have e72 : s63 102 = (s49 102) := (f67 102 (by decide))
  have b73 : 1 ≤ (s63 102) ∧ (s63 102) ≤ 3 := hS63 102
  refine tt_k 5 (S' := (80, [some (.inr (.inl 0)), none], [.inl (s63 102), .inr (.inl 4)], n61, D62, s63, p64, c65)) rfl ?_
  refine tt_cl (by omega) rfl (g_add4 (Zi := Zi) (q := q) (n := n61) (D := D62) (s := s63) (p := p64) (c := c65) (by omega) hz (by omega) hS63 hC65 hW66 (s63 102) (by omega) (show (s63 401) ≤ 262143 by omega)) ?_
  rintro _ _ ⟨n74, D75, s76, p77, c78, rfl, rfl, hS76, hC78, hW79, f80, g81, xe82, k83⟩
  show tt Zi d 109 (83, [some (.inr (.inl 0)), none], [], n74, D75, s76, p77, c78) _
  replace k83 : (s76 401) = (s63 401) + 1 := k83
  have b84 : 0 ≤ (s76 401) ∧ (s76 401) ≤ 262144 := hS76 401
  have e85 : s76 102 = (s63 102) := (f80 102 (by decide))
  have b86 : 1 ≤ (s76 102) ∧ (s76 102) ≤ 3 := hS76 102
  refine tt_k 2 (S' := (85, [some (.inr (.inl 0)), some (.inl 0)], [], n74, D75, s76, p77, c78)) rfl ?_
  refine g_writeFrame_L85 (Zi := Zi) (q := q) (n := n74) (D := D75) (s := s76) (p := p77) (c := c78) hd hz (by omega) hS76 hC78 hW79    (show (s76 401) ≤ 200200 by omega)  ?_ _ 0 n74 D75 s76 p77 c78 (by omega) hS76 fr_rf hC78 hW79 frp_rf ext_rf (show (s76 401) = (s76 401) + 3 * 0 by omega) (show 0 ≤ (s76 102) by omega) (Nat.lt_succ_self _)
  intro x87 n88 D89 s90 p91 c92 b93 hS90 f94 hC92 hW95 g96 xe97 i98 i99 hx100
  show tt Zi d 109 (129, [some (.inr (.inl 0)), some (.inl x87)], [], n88, D89, s90, p91, c92) _
  replace i98 : (s90 401) = (s76 401) + 3 * x87 := i98
  have b101 : 0 ≤ (s90 401) ∧ (s90 401) ≤ 262144 := hS90 401
  replace i99 : x87 ≤ (s76 102) := i99
  have e102 : s90 102 = (s76 102) := (f94 102 (by decide))
  have b103 : 1 ≤ (s90 102) ∧ (s90 102) ≤ 3 := hS90 102
  exact tt_rtv rfl rfl ⟨n88, D89, s90, p91, c92, rfl, rfl, hS90, hC92, hW95, (fr_tr (fr_tr (fr_tr (fr_tr (fr_tr (fr_tr (fr_tr fr_rf f8 (by decide)) f25 (by decide)) f39 (by decide)) f53 (by decide)) f67 (by decide)) f80 (by decide)) f94 (by decide)), (frp_tr (frp_tr (frp_tr (frp_tr (frp_tr (frp_tr (frp_tr frp_rf g9 (by decide)) g26 (by decide)) g40 (by decide)) g54 (by decide)) g68 (by decide)) g81 (by decide)) g96 (by decide)), (ext_tr (ext_tr (ext_tr (ext_tr (ext_tr (ext_tr (ext_tr ext_rf xe10) xe27) xe41) xe55) xe69) xe82) xe97), by show (s90 401) ≤ s 401 + 21; omega⟩
set_option maxRecDepth 100000 in
set_option maxHeartbeats 4000000 in
theorem g_writeMeasures_L37 {g : Nat → Int} {Zi : Nat → Option (Nat × (Nat → Int))} {d n q : Nat} {D : Nat → Nat × Nat} {s : Nat → Int} {p : Nat → Nat} {c : Nat → Nat → Int}  {Q : mi_Rs → mi_H → Prop} (hd : 3 ≤ d) (hz : zk Zi) (hq : q + 6 ≤ 400001) (hS : bS s) (hC : bC D c) (hW : wp q g n D p s) (l_ : Int) (b_l_ : 5 ≤ l_ ∧ l_ ≤ 5) (hq0 : s 401 ≤ 200200)
  (hK : ∀ (i : Int) (o_4 : Option mi_V) (n0 : Nat) (D0 : Nat → Nat × Nat) (s0 : Nat → Int) (p0 : Nat → Nat) (c0 : Nat → Nat → Int) (b_i : 0 ≤ i ∧ i ≤ 5) (hS0 : bS s0) (hF0 : fr s s0 [401]) (hC0 : bC D0 c0) (hW0 : wp q g n0 D0 p0 s0) (hP0 : frp p p0 [400]) (hE0 : ext n D n0 D0) (i0 : s0 401 = s 401 + 2 * i), (True) → tt Zi d 112 (62, [some (.inr (.inl 0)), some (.inr (.inl 3)), some (.inl l_), some (.inl i), o_4], [], n0, D0, s0, p0, c0) Q) :
  ∀ (m : Nat) (i : Int) (o_4 : Option mi_V) (n0 : Nat) (D0 : Nat → Nat × Nat) (s0 : Nat → Int) (p0 : Nat → Nat) (c0 : Nat → Nat → Int) (b_i : 0 ≤ i ∧ i ≤ 5) (hS0 : bS s0) (hF0 : fr s s0 [401]) (hC0 : bC D0 c0) (hW0 : wp q g n0 D0 p0 s0) (hP0 : frp p p0 [400]) (hE0 : ext n D n0 D0) (i0 : s0 401 = s 401 + 2 * i), (5 - i).toNat < m → tt Zi d 112 (37, [some (.inr (.inl 0)), some (.inr (.inl 3)), some (.inl l_), some (.inl i), o_4], [], n0, D0, s0, p0, c0) Q := by
  intro m
  induction m with
  | zero => intro i o_4 n0 D0 s0 p0 c0 b_i hS0 hF0 hC0 hW0 hP0 hE0 i0 hm; exact absurd hm (by omega)
  | succ m ih =>
    intro i o_4 n0 D0 s0 p0 c0 b_i hS0 hF0 hC0 hW0 hP0 hE0 i0 hm
    have e1 : s0 102 = s 102 := hF0 102 (by decide)
    have b2 : 1 ≤ (s0 102) ∧ (s0 102) ≤ 3 := hS0 102
    have b3 : 1 ≤ (s 102) ∧ (s 102) ≤ 3 := hS 102
    refine tt_k 2 (S' := (39, [some (.inr (.inl 0)), some (.inr (.inl 3)), some (.inl l_), some (.inl i), o_4], [.inl l_, .inl i], n0, D0, s0, p0, c0)) rfl ?_
    refine tb_ge (x := i) (y := l_) rfl rfl (by omega) (fun h4 => ?_) (fun h4 => ?_)
    · show tt Zi d 112 (62, [some (.inr (.inl 0)), some (.inr (.inl 3)), some (.inl l_), some (.inl i), o_4], [], n0, D0, s0, p0, c0) _
      exact hK i (o_4) n0 D0 s0 p0 c0 (by omega) hS0 hF0 hC0 hW0 hP0 hE0 (show (s0 401) = s 401 + 2 * i by omega) trivial
    · show tt Zi d 112 (42, [some (.inr (.inl 0)), some (.inr (.inl 3)), some (.inl l_), some (.inl i), o_4], [], n0, D0, s0, p0, c0) _
      refine tt_k 2 (S' := (44, [some (.inr (.inl 0)), some (.inr (.inl 3)), some (.inl l_), some (.inl i), o_4], [.inl i, .inr (.inl 3)], n0, D0, s0, p0, c0)) rfl ?_
      refine tt_ilb (i := i) (m := 5) (lo := 0) (hi := 65535) rfl rfl (by omega) hC0 ⟨rfl, rfl⟩ ?_
      intro v5 b6
      show tt Zi d 112 (45, [some (.inr (.inl 0)), some (.inr (.inl 3)), some (.inl l_), some (.inl i), o_4], [.inl v5], n0, D0, s0, p0, c0) _
      refine tt_k 4 (S' := (53, [some (.inr (.inl 0)), some (.inr (.inl 3)), some (.inl l_), some (.inl i), some (.inl v5)], [.inl v5, .inr (.inl 4)], n0, D0, s0, p0, c0)) rfl ?_
      have b7 : 0 ≤ (s0 401) ∧ (s0 401) ≤ 262144 := hS0 401
      refine tt_cl (by omega) rfl (g_addTwo4 (Zi := Zi) (q := q) (n := n0) (D := D0) (s := s0) (p := p0) (c := c0) (by omega) hz (by omega) hS0 hC0 hW0 v5 (by omega) (show (s0 401) ≤ 262142 by omega)) ?_
      rintro _ _ ⟨n8, D9, s10, p11, c12, rfl, rfl, hS10, hC12, hW13, f14, g15, xe16, k17⟩
      show tt Zi d 112 (56, [some (.inr (.inl 0)), some (.inr (.inl 3)), some (.inl l_), some (.inl i), some (.inl v5)], [], n8, D9, s10, p11, c12) _
      replace k17 : (s10 401) = (s0 401) + 2 := k17
      have b18 : 0 ≤ (s10 401) ∧ (s10 401) ≤ 262144 := hS10 401
      have e19 : s10 102 = (s0 102) := (f14 102 (by decide))
      have b20 : 1 ≤ (s10 102) ∧ (s10 102) ≤ 3 := hS10 102
      refine tt_k 2 (S' := (37, [some (.inr (.inl 0)), some (.inr (.inl 3)), some (.inl l_), some (.inl (i + 1)), some (.inl v5)], [], n8, D9, s10, p11, c12)) rfl ?_
      exact ih (i + 1) (some (.inl v5)) n8 D9 s10 p11 c12 (by omega) hS10 (fr_tr hF0 f14 (by decide)) hC12 hW13 (frp_tr hP0 g15 (by decide)) (ext_tr hE0 xe16) (show (s10 401) = s 401 + 2 * (i + 1) by omega) (show (5 - (i + 1)).toNat < m by omega)
set_option maxRecDepth 100000 in
set_option maxHeartbeats 4000000 in
theorem g_writeMeasures {g : Nat → Int} {Zi : Nat → Option (Nat × (Nat → Int))} {d n q : Nat} {D : Nat → Nat × Nat} {s : Nat → Int} {p : Nat → Nat} {c : Nat → Nat → Int} (hd : 3 ≤ d) (hz : zk Zi) (hq : q + 6 ≤ 400000) (hS : bS s) (hC : bC D c) (hW : wp q g n D p s) (hp0 : s 401 ≤ 200100) : tt Zi d 112 (0, [some (.inr (.inl 0)), none, none, none, none], [], n, D, s, p, c) (fun R H => ∃ (n' : Nat) (D' : Nat → Nat × Nat) (s' : Nat → Int) (p' : Nat → Nat) (c' : Nat → Nat → Int), R = .inl none ∧ H = (n', D', s', p', c') ∧ bS s' ∧ bC D' c' ∧ wp q g n' D' p' s' ∧ fr s s' [401] ∧ frp p p' [400] ∧ ext n D n' D' ∧ (s' 401 ≤ s 401 + 15)) := by
  refine tt_k 3 (S' := (7, [some (.inr (.inl 0)), none, none, none, none], [.inl 248, .inr (.inl 4)], n, D, s, p, c)) rfl ?_
  have b1 : 0 ≤ (s 401) ∧ (s 401) ≤ 262144 := hS 401
  refine tt_cl (by omega) rfl (g_addMark4 (Zi := Zi) (q := q) (n := n) (D := D) (s := s) (p := p) (c := c) (by omega) hz (by omega) hS hC hW 248 (by omega) (show (s 401) ≤ 262142 by omega)) ?_
  rintro _ _ ⟨n2, D3, s4, p5, c6, rfl, rfl, hS4, hC6, hW7, f8, g9, xe10, k11⟩
  show tt Zi d 112 (10, [some (.inr (.inl 0)), none, none, none, none], [], n2, D3, s4, p5, c6) _
  replace k11 : (s4 401) = (s 401) + 2 := k11
  have b12 : 0 ≤ (s4 401) ∧ (s4 401) ≤ 262144 := hS4 401
  have e13 : s4 102 = (s 102) := (f8 102 (by decide))
  have b14 : 1 ≤ (s4 102) ∧ (s4 102) ≤ 3 := hS4 102
  have b15 : 1 ≤ (s 102) ∧ (s 102) ≤ 3 := hS 102
  refine tt_k 3 (S' := (16, [some (.inr (.inl 0)), none, none, none, none], [.inl 13, .inr (.inl 4)], n2, D3, s4, p5, c6)) rfl ?_
  refine tt_cl (by omega) rfl (g_addTwo4 (Zi := Zi) (q := q) (n := n2) (D := D3) (s := s4) (p := p5) (c := c6) (by omega) hz (by omega) hS4 hC6 hW7 13 (by omega) (show (s4 401) ≤ 262142 by omega)) ?_
  rintro _ _ ⟨n16, D17, s18, p19, c20, rfl, rfl, hS18, hC20, hW21, f22, g23, xe24, k25⟩
  show tt Zi d 112 (19, [some (.inr (.inl 0)), none, none, none, none], [], n16, D17, s18, p19, c20) _
  replace k25 : (s18 401) = (s4 401) + 2 := k25
  have b26 : 0 ≤ (s18 401) ∧ (s18 401) ≤ 262144 := hS18 401
  have e27 : s18 102 = (s4 102) := (f22 102 (by decide))
  have b28 : 1 ≤ (s18 102) ∧ (s18 102) ≤ 3 := hS18 102
  refine tt_k 3 (S' := (24, [some (.inr (.inl 0)), none, none, none, none], [.inl 1, .inr (.inl 4)], n16, D17, s18, p19, c20)) rfl ?_
  refine tt_cl (by omega) rfl (g_add4 (Zi := Zi) (q := q) (n := n16) (D := D17) (s := s18) (p := p19) (c := c20) (by omega) hz (by omega) hS18 hC20 hW21 1 (by omega) (show (s18 401) ≤ 262143 by omega)) ?_
  rintro _ _ ⟨n29, D30, s31, p32, c33, rfl, rfl, hS31, hC33, hW34, f35, g36, xe37, k38⟩
  show tt Zi d 112 (27, [some (.inr (.inl 0)), none, none, none, none], [], n29, D30, s31, p32, c33) _
  replace k38 : (s31 401) = (s18 401) + 1 := k38
  have b39 : 0 ≤ (s31 401) ∧ (s31 401) ≤ 262144 := hS31 401
  have e40 : s31 102 = (s18 102) := (f35 102 (by decide))
  have b41 : 1 ≤ (s31 102) ∧ (s31 102) ≤ 3 := hS31 102
  refine tt_k 8 (S' := (37, [some (.inr (.inl 0)), some (.inr (.inl 3)), some (.inl 5), some (.inl 0), none], [], n29, D30, s31, p32, c33)) rfl ?_
  refine g_writeMeasures_L37 (Zi := Zi) (q := q) (n := n29) (D := D30) (s := s31) (p := p32) (c := c33) hd hz (by omega) hS31 hC33 hW34  5 (by omega) (show (s31 401) ≤ 200200 by omega)  ?_ _ 0 (none) n29 D30 s31 p32 c33 (by omega) hS31 fr_rf hC33 hW34 frp_rf ext_rf (show (s31 401) = (s31 401) + 2 * 0 by omega) (Nat.lt_succ_self _)
  intro x42 x43 n44 D45 s46 p47 c48 b49 hS46 f50 hC48 hW51 g52 xe53 i54 hx55
  show tt Zi d 112 (62, [some (.inr (.inl 0)), some (.inr (.inl 3)), some (.inl 5), some (.inl x42), x43], [], n44, D45, s46, p47, c48) _
  replace i54 : (s46 401) = (s31 401) + 2 * x42 := i54
  have b56 : 0 ≤ (s46 401) ∧ (s46 401) ≤ 262144 := hS46 401
  have e57 : s46 102 = (s31 102) := (f50 102 (by decide))
  have b58 : 1 ≤ (s46 102) ∧ (s46 102) ≤ 3 := hS46 102
  exact tt_rtv rfl rfl ⟨n44, D45, s46, p47, c48, rfl, rfl, hS46, hC48, hW51, (fr_tr (fr_tr (fr_tr (fr_tr fr_rf f8 (by decide)) f22 (by decide)) f35 (by decide)) f50 (by decide)), (frp_tr (frp_tr (frp_tr (frp_tr frp_rf g9 (by decide)) g23 (by decide)) g36 (by decide)) g52 (by decide)), (ext_tr (ext_tr (ext_tr (ext_tr ext_rf xe10) xe24) xe37) xe53), by show (s46 401) ≤ s 401 + 15; omega⟩
set_option maxRecDepth 100000 in
set_option maxHeartbeats 4000000 in
theorem g_writeScan {g : Nat → Int} {Zi : Nat → Option (Nat × (Nat → Int))} {d n q : Nat} {D : Nat → Nat × Nat} {s : Nat → Int} {p : Nat → Nat} {c : Nat → Nat → Int} (hd : 3 ≤ d) (hz : zk Zi) (hq : q + 6 ≤ 400000) (hS : bS s) (hC : bC D c) (hW : wp q g n D p s) (pn : Int) (nr : Int) (b_pn : 0 ≤ pn ∧ pn ≤ 2) (b_nr : -2147483648 ≤ nr ∧ nr ≤ 2147483647) (hp0 : s 401 ≤ 200100) : tt Zi d 113 (0, [some (.inr (.inl 0)), some (.inl pn), some (.inl nr)], [], n, D, s, p, c) (fun R H => ∃ (n' : Nat) (D' : Nat → Nat × Nat) (s' : Nat → Int) (p' : Nat → Nat) (c' : Nat → Nat → Int), R = .inl none ∧ H = (n', D', s', p', c') ∧ bS s' ∧ bC D' c' ∧ wp q g n' D' p' s' ∧ fr s s' [401] ∧ frp p p' [400] ∧ ext n D n' D' ∧ (s' 401 ≤ s 401 + 10)) := by
  refine tt_k 3 (S' := (7, [some (.inr (.inl 0)), some (.inl pn), some (.inl nr)], [.inl 218, .inr (.inl 4)], n, D, s, p, c)) rfl ?_
  have b1 : 0 ≤ (s 401) ∧ (s 401) ≤ 262144 := hS 401
  refine tt_cl (by omega) rfl (g_addMark4 (Zi := Zi) (q := q) (n := n) (D := D) (s := s) (p := p) (c := c) (by omega) hz (by omega) hS hC hW 218 (by omega) (show (s 401) ≤ 262142 by omega)) ?_
  rintro _ _ ⟨n2, D3, s4, p5, c6, rfl, rfl, hS4, hC6, hW7, f8, g9, xe10, k11⟩
  show tt Zi d 113 (10, [some (.inr (.inl 0)), some (.inl pn), some (.inl nr)], [], n2, D3, s4, p5, c6) _
  replace k11 : (s4 401) = (s 401) + 2 := k11
  have b12 : 0 ≤ (s4 401) ∧ (s4 401) ≤ 262144 := hS4 401
  have e13 : s4 102 = (s 102) := (f8 102 (by decide))
  have b14 : 1 ≤ (s4 102) ∧ (s4 102) ≤ 3 := hS4 102
  have b15 : 1 ≤ (s 102) ∧ (s 102) ≤ 3 := hS 102
  refine tt_k 3 (S' := (16, [some (.inr (.inl 0)), some (.inl pn), some (.inl nr)], [.inl 8, .inr (.inl 4)], n2, D3, s4, p5, c6)) rfl ?_
  refine tt_cl (by omega) rfl (g_addTwo4 (Zi := Zi) (q := q) (n := n2) (D := D3) (s := s4) (p := p5) (c := c6) (by omega) hz (by omega) hS4 hC6 hW7 8 (by omega) (show (s4 401) ≤ 262142 by omega)) ?_
  rintro _ _ ⟨n16, D17, s18, p19, c20, rfl, rfl, hS18, hC20, hW21, f22, g23, xe24, k25⟩
  show tt Zi d 113 (19, [some (.inr (.inl 0)), some (.inl pn), some (.inl nr)], [], n16, D17, s18, p19, c20) _
  replace k25 : (s18 401) = (s4 401) + 2 := k25
  have b26 : 0 ≤ (s18 401) ∧ (s18 401) ≤ 262144 := hS18 401
  have e27 : s18 102 = (s4 102) := (f22 102 (by decide))
  have b28 : 1 ≤ (s18 102) ∧ (s18 102) ≤ 3 := hS18 102
  refine tt_k 3 (S' := (24, [some (.inr (.inl 0)), some (.inl pn), some (.inl nr)], [.inl 1, .inr (.inl 4)], n16, D17, s18, p19, c20)) rfl ?_
  refine tt_cl (by omega) rfl (g_add4 (Zi := Zi) (q := q) (n := n16) (D := D17) (s := s18) (p := p19) (c := c20) (by omega) hz (by omega) hS18 hC20 hW21 1 (by omega) (show (s18 401) ≤ 262143 by omega)) ?_
  rintro _ _ ⟨n29, D30, s31, p32, c33, rfl, rfl, hS31, hC33, hW34, f35, g36, xe37, k38⟩
  show tt Zi d 113 (27, [some (.inr (.inl 0)), some (.inl pn), some (.inl nr)], [], n29, D30, s31, p32, c33) _
  replace k38 : (s31 401) = (s18 401) + 1 := k38
  have b39 : 0 ≤ (s31 401) ∧ (s31 401) ≤ 262144 := hS31 401
  have e40 : s31 102 = (s18 102) := (f35 102 (by decide))
  have b41 : 1 ≤ (s31 102) ∧ (s31 102) ≤ 3 := hS31 102
  refine tt_k 5 (S' := (34, [some (.inr (.inl 0)), some (.inl pn), some (.inl nr)], [.inl (pn + 1), .inr (.inl 4)], n29, D30, s31, p32, c33)) rfl ?_
  refine tt_cl (by omega) rfl (g_add4 (Zi := Zi) (q := q) (n := n29) (D := D30) (s := s31) (p := p32) (c := c33) (by omega) hz (by omega) hS31 hC33 hW34 (pn + 1) (by omega) (show (s31 401) ≤ 262143 by omega)) ?_
  rintro _ _ ⟨n42, D43, s44, p45, c46, rfl, rfl, hS44, hC46, hW47, f48, g49, xe50, k51⟩
  show tt Zi d 113 (37, [some (.inr (.inl 0)), some (.inl pn), some (.inl nr)], [], n42, D43, s44, p45, c46) _
  replace k51 : (s44 401) = (s31 401) + 1 := k51
  have b52 : 0 ≤ (s44 401) ∧ (s44 401) ≤ 262144 := hS44 401
  have e53 : s44 102 = (s31 102) := (f48 102 (by decide))
  have b54 : 1 ≤ (s44 102) ∧ (s44 102) ≤ 3 := hS44 102
  refine tt_k 3 (S' := (42, [some (.inr (.inl 0)), some (.inl pn), some (.inl nr)], [.inl 0, .inr (.inl 4)], n42, D43, s44, p45, c46)) rfl ?_
  refine tt_cl (by omega) rfl (g_add4 (Zi := Zi) (q := q) (n := n42) (D := D43) (s := s44) (p := p45) (c := c46) (by omega) hz (by omega) hS44 hC46 hW47 0 (by omega) (show (s44 401) ≤ 262143 by omega)) ?_
  rintro _ _ ⟨n55, D56, s57, p58, c59, rfl, rfl, hS57, hC59, hW60, f61, g62, xe63, k64⟩
  show tt Zi d 113 (45, [some (.inr (.inl 0)), some (.inl pn), some (.inl nr)], [], n55, D56, s57, p58, c59) _
  replace k64 : (s57 401) = (s44 401) + 1 := k64
  have b65 : 0 ≤ (s57 401) ∧ (s57 401) ≤ 262144 := hS57 401
  have e66 : s57 102 = (s44 102) := (f61 102 (by decide))
  have b67 : 1 ≤ (s57 102) ∧ (s57 102) ≤ 3 := hS57 102
  refine tt_k 3 (S' := (50, [some (.inr (.inl 0)), some (.inl pn), some (.inl nr)], [.inl nr, .inr (.inl 4)], n55, D56, s57, p58, c59)) rfl ?_
  refine tt_cl (by omega) rfl (g_add4 (Zi := Zi) (q := q) (n := n55) (D := D56) (s := s57) (p := p58) (c := c59) (by omega) hz (by omega) hS57 hC59 hW60 nr (by omega) (show (s57 401) ≤ 262143 by omega)) ?_
  rintro _ _ ⟨n68, D69, s70, p71, c72, rfl, rfl, hS70, hC72, hW73, f74, g75, xe76, k77⟩
  show tt Zi d 113 (53, [some (.inr (.inl 0)), some (.inl pn), some (.inl nr)], [], n68, D69, s70, p71, c72) _
  replace k77 : (s70 401) = (s57 401) + 1 := k77
  have b78 : 0 ≤ (s70 401) ∧ (s70 401) ≤ 262144 := hS70 401
  have e79 : s70 102 = (s57 102) := (f74 102 (by decide))
  have b80 : 1 ≤ (s70 102) ∧ (s70 102) ≤ 3 := hS70 102
  refine tt_k 3 (S' := (58, [some (.inr (.inl 0)), some (.inl pn), some (.inl nr)], [.inl 0, .inr (.inl 4)], n68, D69, s70, p71, c72)) rfl ?_
  refine tt_cl (by omega) rfl (g_add4 (Zi := Zi) (q := q) (n := n68) (D := D69) (s := s70) (p := p71) (c := c72) (by omega) hz (by omega) hS70 hC72 hW73 0 (by omega) (show (s70 401) ≤ 262143 by omega)) ?_
  rintro _ _ ⟨n81, D82, s83, p84, c85, rfl, rfl, hS83, hC85, hW86, f87, g88, xe89, k90⟩
  show tt Zi d 113 (61, [some (.inr (.inl 0)), some (.inl pn), some (.inl nr)], [], n81, D82, s83, p84, c85) _
  replace k90 : (s83 401) = (s70 401) + 1 := k90
  have b91 : 0 ≤ (s83 401) ∧ (s83 401) ≤ 262144 := hS83 401
  have e92 : s83 102 = (s70 102) := (f87 102 (by decide))
  have b93 : 1 ≤ (s83 102) ∧ (s83 102) ≤ 3 := hS83 102
  refine tt_k 3 (S' := (66, [some (.inr (.inl 0)), some (.inl pn), some (.inl nr)], [.inl 0, .inr (.inl 4)], n81, D82, s83, p84, c85)) rfl ?_
  refine tt_cl (by omega) rfl (g_add4 (Zi := Zi) (q := q) (n := n81) (D := D82) (s := s83) (p := p84) (c := c85) (by omega) hz (by omega) hS83 hC85 hW86 0 (by omega) (show (s83 401) ≤ 262143 by omega)) ?_
  rintro _ _ ⟨n94, D95, s96, p97, c98, rfl, rfl, hS96, hC98, hW99, f100, g101, xe102, k103⟩
  show tt Zi d 113 (69, [some (.inr (.inl 0)), some (.inl pn), some (.inl nr)], [], n94, D95, s96, p97, c98) _
  replace k103 : (s96 401) = (s83 401) + 1 := k103
  have b104 : 0 ≤ (s96 401) ∧ (s96 401) ≤ 262144 := hS96 401
  have e105 : s96 102 = (s83 102) := (f100 102 (by decide))
  have b106 : 1 ≤ (s96 102) ∧ (s96 102) ≤ 3 := hS96 102
  exact tt_rtv rfl rfl ⟨n94, D95, s96, p97, c98, rfl, rfl, hS96, hC98, hW99, (fr_tr (fr_tr (fr_tr (fr_tr (fr_tr (fr_tr (fr_tr (fr_tr fr_rf f8 (by decide)) f22 (by decide)) f35 (by decide)) f48 (by decide)) f61 (by decide)) f74 (by decide)) f87 (by decide)) f100 (by decide)), (frp_tr (frp_tr (frp_tr (frp_tr (frp_tr (frp_tr (frp_tr (frp_tr frp_rf g9 (by decide)) g23 (by decide)) g36 (by decide)) g49 (by decide)) g62 (by decide)) g75 (by decide)) g88 (by decide)) g101 (by decide)), (ext_tr (ext_tr (ext_tr (ext_tr (ext_tr (ext_tr (ext_tr (ext_tr ext_rf xe10) xe24) xe37) xe50) xe63) xe76) xe89) xe102), by show (s96 401) ≤ s 401 + 10; omega⟩
