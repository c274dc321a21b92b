/-! the class's headers, exactly -/
set_option maxRecDepth 100000 in
set_option maxHeartbeats 4000000 in
theorem e_writeFrame_L85 {g : Nat → Int} {Zi : Nat → Option (Nat × (Nat → Int))} {d n q : Nat} {D : Nat → Nat × Nat} {s : Nat → Int} {p : Nat → Nat} {c : Nat → Nat → Int}  {Q : mi_Rs → mi_H → Prop} (hd : 3 ≤ d) (hz : zk Zi) (hq : q + 6 ≤ 400001) (hD : wd n p) (hS : bS s) (hC : bC D c) (hW : wp q g n D p s) (R : WT) (hq0 : s 401 ≤ 200200)
  (hK : ∀ (pn : Int) (n0 : Nat) (D0 : Nat → Nat × Nat) (s0 : Nat → Int) (p0 : Nat → Nat) (c0 : Nat → Nat → Int) (b_pn : 0 ≤ pn ∧ pn ≤ 3) (hS0 : bS s0) (hF0 : fr s s0 [401]) (hC0 : bC D0 c0) (hW0 : wp q g n0 D0 p0 s0) (hP0 : frp p p0 [400]) (hE0 : ext n D n0 D0) (hK0 : fk p c n0 p0 c0 [400]) (i0 : s0 401 = s 401 + 3 * pn) (i1 : pn ≤ s 102) (i2 : ∃ W1, wrl W1 (s0 401) (s0 1601) (s0 1602) (c0 (p0 400)) ∧ pFr (s 102 - pn).toNat pn W1 = R), (s 102 ≤ pn) → tt Zi d 109 (129, [some (.inr (.inl 0)), some (.inl pn)], [], n0, D0, s0, p0, c0) Q) :
  ∀ (m : Nat) (pn : Int) (n0 : Nat) (D0 : Nat → Nat × Nat) (s0 : Nat → Int) (p0 : Nat → Nat) (c0 : Nat → Nat → Int) (b_pn : 0 ≤ pn ∧ pn ≤ 3) (hS0 : bS s0) (hF0 : fr s s0 [401]) (hC0 : bC D0 c0) (hW0 : wp q g n0 D0 p0 s0) (hP0 : frp p p0 [400]) (hE0 : ext n D n0 D0) (hK0 : fk p c n0 p0 c0 [400]) (i0 : s0 401 = s 401 + 3 * pn) (i1 : pn ≤ s 102) (i2 : ∃ W1, wrl W1 (s0 401) (s0 1601) (s0 1602) (c0 (p0 400)) ∧ pFr (s 102 - pn).toNat pn W1 = R), (s 102 - pn).toNat < m → tt Zi d 109 (85, [some (.inr (.inl 0)), some (.inl pn)], [], n0, D0, s0, p0, c0) Q := by
  intro m
  induction m with
  | zero => intro pn n0 D0 s0 p0 c0 b_pn hS0 hF0 hC0 hW0 hP0 hE0 hK0 i0 i1 i2 hm; exact absurd hm (by omega)
  | succ m ih =>
    intro pn n0 D0 s0 p0 c0 b_pn hS0 hF0 hC0 hW0 hP0 hE0 hK0 i0 i1 i2 hm
    have e1 : s0 100 = s 100 := hF0 100 (by decide)
    have b2 : 1 ≤ (s0 100) ∧ (s0 100) ≤ 64 := hS0 100
    have b3 : 1 ≤ (s 100) ∧ (s 100) ≤ 64 := hS 100
    have e4 : s0 101 = s 101 := hF0 101 (by decide)
    have b5 : 1 ≤ (s0 101) ∧ (s0 101) ≤ 64 := hS0 101
    have b6 : 1 ≤ (s 101) ∧ (s 101) ≤ 64 := hS 101
    have e7 : s0 102 = s 102 := hF0 102 (by decide)
    have b8 : 1 ≤ (s0 102) ∧ (s0 102) ≤ 3 := hS0 102
    have b9 : 1 ≤ (s 102) ∧ (s 102) ≤ 3 := hS 102
    have e10 : s0 103 = s 103 := hF0 103 (by decide)
    have b11 : 2 ≤ (s0 103) ∧ (s0 103) ≤ 16 := hS0 103
    have b12 : 2 ≤ (s 103) ∧ (s 103) ≤ 16 := hS 103
    obtain ⟨W1, hw1, hw2⟩ := i2
    refine tt_k 4 (S' := (93, [some (.inr (.inl 0)), some (.inl pn)], [.inl (s0 102), .inl pn], n0, D0, s0, p0, c0)) rfl ?_
    refine tb_ge (x := pn) (y := (s0 102)) rfl rfl (by omega) (fun h13 => ?_) (fun h13 => ?_)
    · show tt Zi d 109 (129, [some (.inr (.inl 0)), some (.inl pn)], [], n0, D0, s0, p0, c0) _
      exact hK pn n0 D0 s0 p0 c0 (by omega) hS0 hF0 hC0 hW0 hP0 hE0 hK0 (show (s0 401) = s 401 + 3 * pn by omega) (show pn ≤ s 102 by omega) ⟨W1, hw1, hw2⟩ (by omega)
    · show tt Zi d 109 (96, [some (.inr (.inl 0)), some (.inl pn)], [], n0, D0, s0, p0, c0) _
      refine tt_k 5 (S' := (103, [some (.inr (.inl 0)), some (.inl pn)], [.inl (pn + 1), .inr (.inl 4)], n0, D0, s0, p0, c0)) rfl ?_
      have b14 : 0 ≤ (s0 401) ∧ (s0 401) ≤ 262144 := hS0 401
      have b15 : 0 ≤ (s0 1601) ∧ (s0 1601) ≤ 255 := hS0 1601
      have b16 : 1 ≤ (s0 1602) ∧ (s0 1602) ≤ 8 := hS0 1602
      refine tt_cl (by omega) rfl (e_add4 (Zi := Zi) (q := q) (n := n0) (D := D0) (s := s0) (p := p0) (c := c0) (by omega) hz (by omega) hK0.1 hS0 hC0 hW0 W1 (pn + 1) (by omega) (show (s0 401) ≤ 262143 by omega) hw1) ?_
      rintro _ _ ⟨n17, D18, s19, p20, c21, rfl, rfl, hS19, hC21, hW22, f23, g24, xe25, kf26, k27, k28⟩
      have FK29 : fk p c n17 p20 c21 [400] := fk_tr hK0 kf26 (by decide)
      show tt Zi d 109 (106, [some (.inr (.inl 0)), some (.inl pn)], [], n17, D18, s19, p20, c21) _
      replace k27 : (s19 401) = (s0 401) + 1 := k27
      have b30 : 0 ≤ (s19 401) ∧ (s19 401) ≤ 262144 := hS19 401
      have b31 : 0 ≤ (s19 1601) ∧ (s19 1601) ≤ 255 := hS19 1601
      have b32 : 1 ≤ (s19 1602) ∧ (s19 1602) ≤ 8 := hS19 1602
      have e33 : s19 100 = (s0 100) := (f23 100 (by decide))
      have b34 : 1 ≤ (s19 100) ∧ (s19 100) ≤ 64 := hS19 100
      have e35 : s19 101 = (s0 101) := (f23 101 (by decide))
      have b36 : 1 ≤ (s19 101) ∧ (s19 101) ≤ 64 := hS19 101
      have e37 : s19 102 = (s0 102) := (f23 102 (by decide))
      have b38 : 1 ≤ (s19 102) ∧ (s19 102) ≤ 3 := hS19 102
      have e39 : s19 103 = (s0 103) := (f23 103 (by decide))
      have b40 : 2 ≤ (s19 103) ∧ (s19 103) ≤ 16 := hS19 103
      refine tt_k 3 (S' := (112, [some (.inr (.inl 0)), some (.inl pn)], [.inl 17, .inr (.inl 4)], n17, D18, s19, p20, c21)) rfl ?_
      refine tt_cl (by omega) rfl (e_add4 (Zi := Zi) (q := q) (n := n17) (D := D18) (s := s19) (p := p20) (c := c21) (by omega) hz (by omega) FK29.1 hS19 hC21 hW22 (wAdd W1 (pn + 1)) 17 (by omega) (show (s19 401) ≤ 262143 by omega) k28) ?_
      rintro _ _ ⟨n41, D42, s43, p44, c45, rfl, rfl, hS43, hC45, hW46, f47, g48, xe49, kf50, k51, k52⟩
      have FK53 : fk p c n41 p44 c45 [400] := fk_tr FK29 kf50 (by decide)
      show tt Zi d 109 (115, [some (.inr (.inl 0)), some (.inl pn)], [], n41, D42, s43, p44, c45) _
      replace k51 : (s43 401) = (s19 401) + 1 := k51
      have b54 : 0 ≤ (s43 401) ∧ (s43 401) ≤ 262144 := hS43 401
      have b55 : 0 ≤ (s43 1601) ∧ (s43 1601) ≤ 255 := hS43 1601
      have b56 : 1 ≤ (s43 1602) ∧ (s43 1602) ≤ 8 := hS43 1602
      have e57 : s43 100 = (s19 100) := (f47 100 (by decide))
      have b58 : 1 ≤ (s43 100) ∧ (s43 100) ≤ 64 := hS43 100
      have e59 : s43 101 = (s19 101) := (f47 101 (by decide))
      have b60 : 1 ≤ (s43 101) ∧ (s43 101) ≤ 64 := hS43 101
      have e61 : s43 102 = (s19 102) := (f47 102 (by decide))
      have b62 : 1 ≤ (s43 102) ∧ (s43 102) ≤ 3 := hS43 102
      have e63 : s43 103 = (s19 103) := (f47 103 (by decide))
      have b64 : 2 ≤ (s43 103) ∧ (s43 103) ≤ 16 := hS43 103
      refine tt_k 3 (S' := (120, [some (.inr (.inl 0)), some (.inl pn)], [.inl 0, .inr (.inl 4)], n41, D42, s43, p44, c45)) rfl ?_
      refine tt_cl (by omega) rfl (e_add4 (Zi := Zi) (q := q) (n := n41) (D := D42) (s := s43) (p := p44) (c := c45) (by omega) hz (by omega) FK53.1 hS43 hC45 hW46 (wAdd (wAdd W1 (pn + 1)) 17) 0 (by omega) (show (s43 401) ≤ 262143 by omega) k52) ?_
      rintro _ _ ⟨n65, D66, s67, p68, c69, rfl, rfl, hS67, hC69, hW70, f71, g72, xe73, kf74, k75, k76⟩
      have FK77 : fk p c n65 p68 c69 [400] := fk_tr FK53 kf74 (by decide)
      show tt Zi d 109 (123, [some (.inr (.inl 0)), some (.inl pn)], [], n65, D66, s67, p68, c69) _
      replace k75 : (s67 401) = (s43 401) + 1 := k75
      have b78 : 0 ≤ (s67 401) ∧ (s67 401) ≤ 262144 := hS67 401
      have b79 : 0 ≤ (s67 1601) ∧ (s67 1601) ≤ 255 := hS67 1601
      have b80 : 1 ≤ (s67 1602) ∧ (s67 1602) ≤ 8 := hS67 1602
      have e81 : s67 100 = (s43 100) := (f71 100 (by decide))
      have b82 : 1 ≤ (s67 100) ∧ (s67 100) ≤ 64 := hS67 100
      have e83 : s67 101 = (s43 101) := (f71 101 (by decide))
      have b84 : 1 ≤ (s67 101) ∧ (s67 101) ≤ 64 := hS67 101
      have e85 : s67 102 = (s43 102) := (f71 102 (by decide))
      have b86 : 1 ≤ (s67 102) ∧ (s67 102) ≤ 3 := hS67 102
      have e87 : s67 103 = (s43 103) := (f71 103 (by decide))
      have b88 : 2 ≤ (s67 103) ∧ (s67 103) ≤ 16 := hS67 103
      refine tt_k 2 (S' := (85, [some (.inr (.inl 0)), some (.inl (pn + 1))], [], n65, D66, s67, p68, c69)) rfl ?_
      rw [show (s 102 - pn).toNat = (s 102 - (pn + 1)).toNat + 1 by omega, pFr] at hw2
      exact ih (pn + 1) n65 D66 s67 p68 c69 (by omega) hS67 (fr_tr (fr_tr (fr_tr hF0 f23 (by decide)) f47 (by decide)) f71 (by decide)) hC69 hW70 (frp_tr (frp_tr (frp_tr hP0 g24 (by decide)) g48 (by decide)) g72 (by decide)) (ext_tr (ext_tr (ext_tr hE0 xe25) xe49) xe73) FK77 (show (s67 401) = s 401 + 3 * (pn + 1) by omega) (show (pn + 1) ≤ s 102 by omega) ⟨_, k76, hw2⟩ (show (s 102 - (pn + 1)).toNat < m by omega)
set_option maxRecDepth 100000 in
set_option maxHeartbeats 4000000 in
theorem e_writeFrame {g : Nat → Int} {Zi : Nat → Option (Nat × (Nat → Int))} {d n q : Nat} {D : Nat → Nat × Nat} {s : Nat → Int} {p : Nat → Nat} {c : Nat → Nat → Int} (hd : 3 ≤ d) (hz : zk Zi) (hq : q + 6 ≤ 400000) (hD : wd n p) (hS : bS s) (hC : bC D c) (hW : wp q g n D p s) (W : WT) (hp0 : s 401 ≤ 200100) (hp1 : wrl W (s 401) (s 1601) (s 1602) (c (p 400))) : tt Zi d 109 (0, [some (.inr (.inl 0)), none], [], n, D, s, p, c) (fun R H => ∃ (n' : Nat) (D' : Nat → Nat × Nat) (s' : Nat → Int) (p' : Nat → Nat) (c' : Nat → Nat → Int), R = .inl none ∧ H = (n', D', s', p', c') ∧ bS s' ∧ bC D' c' ∧ wp q g n' D' p' s' ∧ fr s s' [401] ∧ frp p p' [400] ∧ ext n D n' D' ∧ fk p c n' p' c' [400] ∧ (s' 401 = s 401 + 10 + 3 * s 102) ∧ (wrl (pFm (s 100) (s 101) (s 102) (s 103) W) (s' 401) (s' 1601) (s' 1602) (c' (p' 400)))) := by
  have b1 : 1 ≤ (s 100) ∧ (s 100) ≤ 64 := hS 100
  have b2 : 1 ≤ (s 101) ∧ (s 101) ≤ 64 := hS 101
  have b3 : 1 ≤ (s 102) ∧ (s 102) ≤ 3 := hS 102
  have b4 : 2 ≤ (s 103) ∧ (s 103) ≤ 16 := hS 103
  refine tt_k 3 (S' := (7, [some (.inr (.inl 0)), none], [.inl 247, .inr (.inl 4)], n, D, s, p, c)) rfl ?_
  have b5 : 0 ≤ (s 401) ∧ (s 401) ≤ 262144 := hS 401
  have b6 : 0 ≤ (s 1601) ∧ (s 1601) ≤ 255 := hS 1601
  have b7 : 1 ≤ (s 1602) ∧ (s 1602) ≤ 8 := hS 1602
  refine tt_cl (by omega) rfl (e_addMark4 (Zi := Zi) (q := q) (n := n) (D := D) (s := s) (p := p) (c := c) (by omega) hz (by omega) hD hS hC hW W 247 (by omega) (show (s 401) ≤ 262142 by omega) hp1) ?_
  rintro _ _ ⟨n8, D9, s10, p11, c12, rfl, rfl, hS10, hC12, hW13, f14, g15, xe16, kf17, k18, k19⟩
  have FK20 : fk p c n8 p11 c12 [400] := fk_tr (fk_rf hD) kf17 (by decide)
  show tt Zi d 109 (10, [some (.inr (.inl 0)), none], [], n8, D9, s10, p11, c12) _
  replace k18 : (s10 401) = (s 401) + 2 := k18
  have b21 : 0 ≤ (s10 401) ∧ (s10 401) ≤ 262144 := hS10 401
  have b22 : 0 ≤ (s10 1601) ∧ (s10 1601) ≤ 255 := hS10 1601
  have b23 : 1 ≤ (s10 1602) ∧ (s10 1602) ≤ 8 := hS10 1602
  have e24 : s10 100 = (s 100) := (f14 100 (by decide))
  have b25 : 1 ≤ (s10 100) ∧ (s10 100) ≤ 64 := hS10 100
  have e26 : s10 101 = (s 101) := (f14 101 (by decide))
  have b27 : 1 ≤ (s10 101) ∧ (s10 101) ≤ 64 := hS10 101
  have e28 : s10 102 = (s 102) := (f14 102 (by decide))
  have b29 : 1 ≤ (s10 102) ∧ (s10 102) ≤ 3 := hS10 102
  have e30 : s10 103 = (s 103) := (f14 103 (by decide))
  have b31 : 2 ≤ (s10 103) ∧ (s10 103) ≤ 16 := hS10 103
  refine tt_k 5 (S' := (21, [some (.inr (.inl 0)), none], [.inl (s10 102), .inr (.inl 4)], n8, D9, s10, p11, c12)) rfl ?_
  rw [show s10 102 = s 102 by omega]
  show tt Zi d 109 (21, [some (.inr (.inl 0)), none], [.inl (s 102), .inr (.inl 4)], n8, D9, s10, p11, c12) _
  refine tt_cl (by omega) rfl (g_frameLength (Zi := Zi) (q := q) (n := n8) (D := D9) (s := s10) (p := p11) (c := c12) (by omega) hz (by omega) FK20.1 hS10 hC12 hW13 (s 102) (by omega)) ?_
  rintro _ _ ⟨r32, rfl, rfl, b33, k34⟩
  show tt Zi d 109 (24, [some (.inr (.inl 0)), none], [.inl r32, .inr (.inl 4)], n8, D9, s10, p11, c12) _
  replace k34 : r32 = 8 + 3 * (s 102) := k34
  have hfl : r32 = 8 + 3 * s 102 := by omega
  subst hfl
  show tt Zi d 109 (24, [some (.inr (.inl 0)), none], [.inl (8 + 3 * s 102), .inr (.inl 4)], n8, D9, s10, p11, c12) _
  refine tt_cl (by omega) rfl (e_addTwo4 (Zi := Zi) (q := q) (n := n8) (D := D9) (s := s10) (p := p11) (c := c12) (by omega) hz (by omega) FK20.1 hS10 hC12 hW13 (wAdd (wAdd W 255) 247) (8 + 3 * s 102) (by omega) (show (s10 401) ≤ 262142 by omega) k19) ?_
  rintro _ _ ⟨n35, D36, s37, p38, c39, rfl, rfl, hS37, hC39, hW40, f41, g42, xe43, kf44, k45, k46⟩
  have FK47 : fk p c n35 p38 c39 [400] := fk_tr FK20 kf44 (by decide)
  show tt Zi d 109 (27, [some (.inr (.inl 0)), none], [], n35, D36, s37, p38, c39) _
  replace k45 : (s37 401) = (s10 401) + 2 := k45
  have b48 : 0 ≤ (s37 401) ∧ (s37 401) ≤ 262144 := hS37 401
  have b49 : 0 ≤ (s37 1601) ∧ (s37 1601) ≤ 255 := hS37 1601
  have b50 : 1 ≤ (s37 1602) ∧ (s37 1602) ≤ 8 := hS37 1602
  have e51 : s37 100 = (s10 100) := (f41 100 (by decide))
  have b52 : 1 ≤ (s37 100) ∧ (s37 100) ≤ 64 := hS37 100
  have e53 : s37 101 = (s10 101) := (f41 101 (by decide))
  have b54 : 1 ≤ (s37 101) ∧ (s37 101) ≤ 64 := hS37 101
  have e55 : s37 102 = (s10 102) := (f41 102 (by decide))
  have b56 : 1 ≤ (s37 102) ∧ (s37 102) ≤ 3 := hS37 102
  have e57 : s37 103 = (s10 103) := (f41 103 (by decide))
  have b58 : 2 ≤ (s37 103) ∧ (s37 103) ≤ 16 := hS37 103
  refine tt_k 5 (S' := (38, [some (.inr (.inl 0)), none], [.inl (s37 103), .inr (.inl 4)], n35, D36, s37, p38, c39)) rfl ?_
  rw [show s37 103 = s 103 by omega]
  show tt Zi d 109 (38, [some (.inr (.inl 0)), none], [.inl (s 103), .inr (.inl 4)], n35, D36, s37, p38, c39) _
  refine tt_cl (by omega) rfl (e_add4 (Zi := Zi) (q := q) (n := n35) (D := D36) (s := s37) (p := p38) (c := c39) (by omega) hz (by omega) FK47.1 hS37 hC39 hW40 (wAdd (wAdd (wAdd (wAdd W 255) 247) (mi_shr (8 + 3 * s 102) 8)) (8 + 3 * s 102)) (s 103) (by omega) (show (s37 401) ≤ 262143 by omega) k46) ?_
  rintro _ _ ⟨n59, D60, s61, p62, c63, rfl, rfl, hS61, hC63, hW64, f65, g66, xe67, kf68, k69, k70⟩
  have FK71 : fk p c n59 p62 c63 [400] := fk_tr FK47 kf68 (by decide)
  show tt Zi d 109 (41, [some (.inr (.inl 0)), none], [], n59, D60, s61, p62, c63) _
  replace k69 : (s61 401) = (s37 401) + 1 := k69
  have b72 : 0 ≤ (s61 401) ∧ (s61 401) ≤ 262144 := hS61 401
  have b73 : 0 ≤ (s61 1601) ∧ (s61 1601) ≤ 255 := hS61 1601
  have b74 : 1 ≤ (s61 1602) ∧ (s61 1602) ≤ 8 := hS61 1602
  have e75 : s61 100 = (s37 100) := (f65 100 (by decide))
  have b76 : 1 ≤ (s61 100) ∧ (s61 100) ≤ 64 := hS61 100
  have e77 : s61 101 = (s37 101) := (f65 101 (by decide))
  have b78 : 1 ≤ (s61 101) ∧ (s61 101) ≤ 64 := hS61 101
  have e79 : s61 102 = (s37 102) := (f65 102 (by decide))
  have b80 : 1 ≤ (s61 102) ∧ (s61 102) ≤ 3 := hS61 102
  have e81 : s61 103 = (s37 103) := (f65 103 (by decide))
  have b82 : 2 ≤ (s61 103) ∧ (s61 103) ≤ 16 := hS61 103
  refine tt_k 5 (S' := (52, [some (.inr (.inl 0)), none], [.inl (s61 101), .inr (.inl 4)], n59, D60, s61, p62, c63)) rfl ?_
  rw [show s61 101 = s 101 by omega]
  show tt Zi d 109 (52, [some (.inr (.inl 0)), none], [.inl (s 101), .inr (.inl 4)], n59, D60, s61, p62, c63) _
  refine tt_cl (by omega) rfl (e_addTwo4 (Zi := Zi) (q := q) (n := n59) (D := D60) (s := s61) (p := p62) (c := c63) (by omega) hz (by omega) FK71.1 hS61 hC63 hW64 (wAdd (wAdd (wAdd (wAdd (wAdd W 255) 247) (mi_shr (8 + 3 * s 102) 8)) (8 + 3 * s 102)) (s 103)) (s 101) (by omega) (show (s61 401) ≤ 262142 by omega) k70) ?_
  rintro _ _ ⟨n83, D84, s85, p86, c87, rfl, rfl, hS85, hC87, hW88, f89, g90, xe91, kf92, k93, k94⟩
  have FK95 : fk p c n83 p86 c87 [400] := fk_tr FK71 kf92 (by decide)
  show tt Zi d 109 (55, [some (.inr (.inl 0)), none], [], n83, D84, s85, p86, c87) _
  replace k93 : (s85 401) = (s61 401) + 2 := k93
  have b96 : 0 ≤ (s85 401) ∧ (s85 401) ≤ 262144 := hS85 401
  have b97 : 0 ≤ (s85 1601) ∧ (s85 1601) ≤ 255 := hS85 1601
  have b98 : 1 ≤ (s85 1602) ∧ (s85 1602) ≤ 8 := hS85 1602
  have e99 : s85 100 = (s61 100) := (f89 100 (by decide))
  have b100 : 1 ≤ (s85 100) ∧ (s85 100) ≤ 64 := hS85 100
  have e101 : s85 101 = (s61 101) := (f89 101 (by decide))
  have b102 : 1 ≤ (s85 101) ∧ (s85 101) ≤ 64 := hS85 101
  have e103 : s85 102 = (s61 102) := (f89 102 (by decide))
  have b104 : 1 ≤ (s85 102) ∧ (s85 102) ≤ 3 := hS85 102
  have e105 : s85 103 = (s61 103) := (f89 103 (by decide))
  have b106 : 2 ≤ (s85 103) ∧ (s85 103) ≤ 16 := hS85 103
  refine tt_k 5 (S' := (66, [some (.inr (.inl 0)), none], [.inl (s85 100), .inr (.inl 4)], n83, D84, s85, p86, c87)) rfl ?_
  rw [show s85 100 = s 100 by omega]
  show tt Zi d 109 (66, [some (.inr (.inl 0)), none], [.inl (s 100), .inr (.inl 4)], n83, D84, s85, p86, c87) _
  refine tt_cl (by omega) rfl (e_addTwo4 (Zi := Zi) (q := q) (n := n83) (D := D84) (s := s85) (p := p86) (c := c87) (by omega) hz (by omega) FK95.1 hS85 hC87 hW88 (wAdd (wAdd (wAdd (wAdd (wAdd (wAdd (wAdd W 255) 247) (mi_shr (8 + 3 * s 102) 8)) (8 + 3 * s 102)) (s 103)) (mi_shr (s 101) 8)) (s 101)) (s 100) (by omega) (show (s85 401) ≤ 262142 by omega) k94) ?_
  rintro _ _ ⟨n107, D108, s109, p110, c111, rfl, rfl, hS109, hC111, hW112, f113, g114, xe115, kf116, k117, k118⟩
  have FK119 : fk p c n107 p110 c111 [400] := fk_tr FK95 kf116 (by decide)
  show tt Zi d 109 (69, [some (.inr (.inl 0)), none], [], n107, D108, s109, p110, c111) _
  replace k117 : (s109 401) = (s85 401) + 2 := k117
  have b120 : 0 ≤ (s109 401) ∧ (s109 401) ≤ 262144 := hS109 401
  have b121 : 0 ≤ (s109 1601) ∧ (s109 1601) ≤ 255 := hS109 1601
  have b122 : 1 ≤ (s109 1602) ∧ (s109 1602) ≤ 8 := hS109 1602
  have e123 : s109 100 = (s85 100) := (f113 100 (by decide))
  have b124 : 1 ≤ (s109 100) ∧ (s109 100) ≤ 64 := hS109 100
  have e125 : s109 101 = (s85 101) := (f113 101 (by decide))
  have b126 : 1 ≤ (s109 101) ∧ (s109 101) ≤ 64 := hS109 101
  have e127 : s109 102 = (s85 102) := (f113 102 (by decide))
  have b128 : 1 ≤ (s109 102) ∧ (s109 102) ≤ 3 := hS109 102
  have e129 : s109 103 = (s85 103) := (f113 103 (by decide))
  have b130 : 2 ≤ (s109 103) ∧ (s109 103) ≤ 16 := hS109 103
  refine tt_k 5 (S' := (80, [some (.inr (.inl 0)), none], [.inl (s109 102), .inr (.inl 4)], n107, D108, s109, p110, c111)) rfl ?_
  rw [show s109 102 = s 102 by omega]
  show tt Zi d 109 (80, [some (.inr (.inl 0)), none], [.inl (s 102), .inr (.inl 4)], n107, D108, s109, p110, c111) _
  refine tt_cl (by omega) rfl (e_add4 (Zi := Zi) (q := q) (n := n107) (D := D108) (s := s109) (p := p110) (c := c111) (by omega) hz (by omega) FK119.1 hS109 hC111 hW112 (wAdd (wAdd (wAdd (wAdd (wAdd (wAdd (wAdd (wAdd (wAdd W 255) 247) (mi_shr (8 + 3 * s 102) 8)) (8 + 3 * s 102)) (s 103)) (mi_shr (s 101) 8)) (s 101)) (mi_shr (s 100) 8)) (s 100)) (s 102) (by omega) (show (s109 401) ≤ 262143 by omega) k118) ?_
  rintro _ _ ⟨n131, D132, s133, p134, c135, rfl, rfl, hS133, hC135, hW136, f137, g138, xe139, kf140, k141, k142⟩
  have FK143 : fk p c n131 p134 c135 [400] := fk_tr FK119 kf140 (by decide)
  show tt Zi d 109 (83, [some (.inr (.inl 0)), none], [], n131, D132, s133, p134, c135) _
  replace k141 : (s133 401) = (s109 401) + 1 := k141
  have b144 : 0 ≤ (s133 401) ∧ (s133 401) ≤ 262144 := hS133 401
  have b145 : 0 ≤ (s133 1601) ∧ (s133 1601) ≤ 255 := hS133 1601
  have b146 : 1 ≤ (s133 1602) ∧ (s133 1602) ≤ 8 := hS133 1602
  have e147 : s133 100 = (s109 100) := (f137 100 (by decide))
  have b148 : 1 ≤ (s133 100) ∧ (s133 100) ≤ 64 := hS133 100
  have e149 : s133 101 = (s109 101) := (f137 101 (by decide))
  have b150 : 1 ≤ (s133 101) ∧ (s133 101) ≤ 64 := hS133 101
  have e151 : s133 102 = (s109 102) := (f137 102 (by decide))
  have b152 : 1 ≤ (s133 102) ∧ (s133 102) ≤ 3 := hS133 102
  have e153 : s133 103 = (s109 103) := (f137 103 (by decide))
  have b154 : 2 ≤ (s133 103) ∧ (s133 103) ≤ 16 := hS133 103
  refine tt_k 2 (S' := (85, [some (.inr (.inl 0)), some (.inl 0)], [], n131, D132, s133, p134, c135)) rfl ?_
  refine e_writeFrame_L85 (Zi := Zi) (q := q) (n := n131) (D := D132) (s := s133) (p := p134) (c := c135) hd hz (by omega) FK143.1 hS133 hC135 hW136 (pFr (s 102).toNat 0 (wAdd (wAdd (wAdd (wAdd (wAdd (wAdd (wAdd (wAdd (wAdd (wAdd W 255) 247) (mi_shr (8 + 3 * s 102) 8)) (8 + 3 * s 102)) (s 103)) (mi_shr (s 101) 8)) (s 101)) (mi_shr (s 100) 8)) (s 100)) (s 102)))   (show (s133 401) ≤ 200200 by omega)  ?_ _ 0 n131 D132 s133 p134 c135 (by omega) hS133 fr_rf hC135 hW136 frp_rf ext_rf (fk_rf FK143.1) (show (s133 401) = (s133 401) + 3 * 0 by omega) (show 0 ≤ (s133 102) by omega) ⟨_, k142, by rw [Int.sub_zero, show s133 102 = s 102 by omega]⟩ (Nat.lt_succ_self _)
  intro x155 n156 D157 s158 p159 c160 b161 hS158 f162 hC160 hW163 g164 xe165 kf166 i167 i168 i169 hx170
  show tt Zi d 109 (129, [some (.inr (.inl 0)), some (.inl x155)], [], n156, D157, s158, p159, c160) _
  have FK171 : fk p c n156 p159 c160 [400] := fk_tr FK143 kf166 (by decide)
  replace i167 : (s158 401) = (s133 401) + 3 * x155 := i167
  have b172 : 0 ≤ (s158 401) ∧ (s158 401) ≤ 262144 := hS158 401
  replace i168 : x155 ≤ (s133 102) := i168
  replace hx170 : (s133 102) ≤ x155 := hx170
  have e173 : s158 100 = (s133 100) := (f162 100 (by decide))
  have b174 : 1 ≤ (s158 100) ∧ (s158 100) ≤ 64 := hS158 100
  have e175 : s158 101 = (s133 101) := (f162 101 (by decide))
  have b176 : 1 ≤ (s158 101) ∧ (s158 101) ≤ 64 := hS158 101
  have e177 : s158 102 = (s133 102) := (f162 102 (by decide))
  have b178 : 1 ≤ (s158 102) ∧ (s158 102) ≤ 3 := hS158 102
  have e179 : s158 103 = (s133 103) := (f162 103 (by decide))
  have b180 : 2 ≤ (s158 103) ∧ (s158 103) ≤ 16 := hS158 103
  obtain ⟨W9, hw9, hw8⟩ := i169
  rw [show (s133 102 - x155).toNat = 0 by omega, pFr] at hw8
  exact tt_rtv rfl rfl ⟨n156, D157, s158, p159, c160, rfl, rfl, hS158, hC160, hW163, (fr_tr (fr_tr (fr_tr (fr_tr (fr_tr (fr_tr (fr_tr fr_rf f14 (by decide)) f41 (by decide)) f65 (by decide)) f89 (by decide)) f113 (by decide)) f137 (by decide)) f162 (by decide)), (frp_tr (frp_tr (frp_tr (frp_tr (frp_tr (frp_tr (frp_tr frp_rf g15 (by decide)) g42 (by decide)) g66 (by decide)) g90 (by decide)) g114 (by decide)) g138 (by decide)) g164 (by decide)), (ext_tr (ext_tr (ext_tr (ext_tr (ext_tr (ext_tr (ext_tr ext_rf xe16) xe43) xe67) xe91) xe115) xe139) xe165), FK171, by show (s158 401) = s 401 + 10 + 3 * s 102; omega, by show wrl (pFm (s 100) (s 101) (s 102) (s 103) W) ((s158 401)) ((s158 1601)) ((s158 1602)) (c160 (p159 400)); have h := hw9; rw [hw8] at h; exact h⟩
set_option maxRecDepth 100000 in
set_option maxHeartbeats 4000000 in
theorem e_writeMeasures_L37 {g : Nat → Int} {Zi : Nat → Option (Nat × (Nat → Int))} {d n q : Nat} {D : Nat → Nat × Nat} {s : Nat → Int} {p : Nat → Nat} {c : Nat → Nat → Int}  {Q : mi_Rs → mi_H → Prop} (hd : 3 ≤ d) (hz : zk Zi) (hq : q + 6 ≤ 400001) (hD : wd n p) (hS : bS s) (hC : bC D c) (hW : wp q g n D p s) (R : WT) (l_ : Int) (b_l_ : 5 ≤ l_ ∧ l_ ≤ 5) (hq0 : s 401 ≤ 200200)
  (hK : ∀ (i : Int) (o_4 : Option mi_V) (n0 : Nat) (D0 : Nat → Nat × Nat) (s0 : Nat → Int) (p0 : Nat → Nat) (c0 : Nat → Nat → Int) (b_i : 0 ≤ i ∧ i ≤ 5) (hS0 : bS s0) (hF0 : fr s s0 [401]) (hC0 : bC D0 c0) (hW0 : wp q g n0 D0 p0 s0) (hP0 : frp p p0 [400]) (hE0 : ext n D n0 D0) (hK0 : fk p c n0 p0 c0 [400]) (i0 : s0 401 = s 401 + 2 * i) (i1 : ∃ W1, wrl W1 (s0 401) (s0 1601) (s0 1602) (c0 (p0 400)) ∧ pMl (f5 (c 3 0) (c 3 1) (c 3 2) (c 3 3) (c 3 4)) (5 - i).toNat i W1 = R), (5 ≤ i) → tt Zi d 112 (62, [some (.inr (.inl 0)), some (.inr (.inl 3)), some (.inl l_), some (.inl i), o_4], [], n0, D0, s0, p0, c0) Q) :
  ∀ (m : Nat) (i : Int) (o_4 : Option mi_V) (n0 : Nat) (D0 : Nat → Nat × Nat) (s0 : Nat → Int) (p0 : Nat → Nat) (c0 : Nat → Nat → Int) (b_i : 0 ≤ i ∧ i ≤ 5) (hS0 : bS s0) (hF0 : fr s s0 [401]) (hC0 : bC D0 c0) (hW0 : wp q g n0 D0 p0 s0) (hP0 : frp p p0 [400]) (hE0 : ext n D n0 D0) (hK0 : fk p c n0 p0 c0 [400]) (i0 : s0 401 = s 401 + 2 * i) (i1 : ∃ W1, wrl W1 (s0 401) (s0 1601) (s0 1602) (c0 (p0 400)) ∧ pMl (f5 (c 3 0) (c 3 1) (c 3 2) (c 3 3) (c 3 4)) (5 - i).toNat i W1 = R), (5 - i).toNat < m → tt Zi d 112 (37, [some (.inr (.inl 0)), some (.inr (.inl 3)), some (.inl l_), some (.inl i), o_4], [], n0, D0, s0, p0, c0) Q := by
  intro m
  induction m with
  | zero => intro i o_4 n0 D0 s0 p0 c0 b_i hS0 hF0 hC0 hW0 hP0 hE0 hK0 i0 i1 hm; exact absurd hm (by omega)
  | succ m ih =>
    intro i o_4 n0 D0 s0 p0 c0 b_i hS0 hF0 hC0 hW0 hP0 hE0 hK0 i0 i1 hm
    obtain ⟨W1, hw1, hw2⟩ := i1
    refine tt_k 2 (S' := (39, [some (.inr (.inl 0)), some (.inr (.inl 3)), some (.inl l_), some (.inl i), o_4], [.inl l_, .inl i], n0, D0, s0, p0, c0)) rfl ?_
    refine tb_ge (x := i) (y := l_) rfl rfl (by omega) (fun h1 => ?_) (fun h1 => ?_)
    · show tt Zi d 112 (62, [some (.inr (.inl 0)), some (.inr (.inl 3)), some (.inl l_), some (.inl i), o_4], [], n0, D0, s0, p0, c0) _
      exact hK i (o_4) n0 D0 s0 p0 c0 (by omega) hS0 hF0 hC0 hW0 hP0 hE0 hK0 (show (s0 401) = s 401 + 2 * i by omega) ⟨W1, hw1, hw2⟩ (by omega)
    · show tt Zi d 112 (42, [some (.inr (.inl 0)), some (.inr (.inl 3)), some (.inl l_), some (.inl i), o_4], [], n0, D0, s0, p0, c0) _
      refine tt_k 2 (S' := (44, [some (.inr (.inl 0)), some (.inr (.inl 3)), some (.inl l_), some (.inl i), o_4], [.inl i, .inr (.inl 3)], n0, D0, s0, p0, c0)) rfl ?_
      refine tt_ilb (i := i) (m := 5) (lo := 0) (hi := 65535) rfl rfl (by omega) hC0 ⟨rfl, rfl⟩ ?_
      intro v2 b3 hvv2
      show tt Zi d 112 (45, [some (.inr (.inl 0)), some (.inr (.inl 3)), some (.inl l_), some (.inl i), o_4], [.inl v2], n0, D0, s0, p0, c0) _
      have hf5 : v2 = f5 (c 3 0) (c 3 1) (c 3 2) (c 3 3) (c 3 4) i := by rw [← hvv2, show c0 3 = c 3 from fk_c (k := 3) hK0 (by decide)]; exact f5_of (by omega)
      refine tt_k 4 (S' := (53, [some (.inr (.inl 0)), some (.inr (.inl 3)), some (.inl l_), some (.inl i), some (.inl v2)], [.inl v2, .inr (.inl 4)], n0, D0, s0, p0, c0)) rfl ?_
      have b4 : 0 ≤ (s0 401) ∧ (s0 401) ≤ 262144 := hS0 401
      have b5 : 0 ≤ (s0 1601) ∧ (s0 1601) ≤ 255 := hS0 1601
      have b6 : 1 ≤ (s0 1602) ∧ (s0 1602) ≤ 8 := hS0 1602
      refine tt_cl (by omega) rfl (e_addTwo4 (Zi := Zi) (q := q) (n := n0) (D := D0) (s := s0) (p := p0) (c := c0) (by omega) hz (by omega) hK0.1 hS0 hC0 hW0 W1 v2 (by omega) (show (s0 401) ≤ 262142 by omega) hw1) ?_
      rintro _ _ ⟨n7, D8, s9, p10, c11, rfl, rfl, hS9, hC11, hW12, f13, g14, xe15, kf16, k17, k18⟩
      have FK19 : fk p c n7 p10 c11 [400] := fk_tr hK0 kf16 (by decide)
      show tt Zi d 112 (56, [some (.inr (.inl 0)), some (.inr (.inl 3)), some (.inl l_), some (.inl i), some (.inl v2)], [], n7, D8, s9, p10, c11) _
      replace k17 : (s9 401) = (s0 401) + 2 := k17
      have b20 : 0 ≤ (s9 401) ∧ (s9 401) ≤ 262144 := hS9 401
      have b21 : 0 ≤ (s9 1601) ∧ (s9 1601) ≤ 255 := hS9 1601
      have b22 : 1 ≤ (s9 1602) ∧ (s9 1602) ≤ 8 := hS9 1602
      refine tt_k 2 (S' := (37, [some (.inr (.inl 0)), some (.inr (.inl 3)), some (.inl l_), some (.inl (i + 1)), some (.inl v2)], [], n7, D8, s9, p10, c11)) rfl ?_
      rw [show (5 - i).toNat = (5 - (i + 1)).toNat + 1 by omega, pMl, ← hf5] at hw2
      exact ih (i + 1) (some (.inl v2)) n7 D8 s9 p10 c11 (by omega) hS9 (fr_tr hF0 f13 (by decide)) hC11 hW12 (frp_tr hP0 g14 (by decide)) (ext_tr hE0 xe15) FK19 (show (s9 401) = s 401 + 2 * (i + 1) by omega) ⟨_, k18, hw2⟩ (show (5 - (i + 1)).toNat < m by omega)
set_option maxRecDepth 100000 in
set_option maxHeartbeats 4000000 in
theorem e_writeMeasures {g : Nat → Int} {Zi : Nat → Option (Nat × (Nat → Int))} {d n q : Nat} {D : Nat → Nat × Nat} {s : Nat → Int} {p : Nat → Nat} {c : Nat → Nat → Int} (hd : 3 ≤ d) (hz : zk Zi) (hq : q + 6 ≤ 400000) (hD : wd n p) (hS : bS s) (hC : bC D c) (hW : wp q g n D p s) (W : WT) (hp0 : s 401 ≤ 200100) (hp1 : wrl W (s 401) (s 1601) (s 1602) (c (p 400))) : tt Zi d 112 (0, [some (.inr (.inl 0)), none, none, none, none], [], n, D, s, p, c) (fun R H => ∃ (n' : Nat) (D' : Nat → Nat × Nat) (s' : Nat → Int) (p' : Nat → Nat) (c' : Nat → Nat → Int), R = .inl none ∧ H = (n', D', s', p', c') ∧ bS s' ∧ bC D' c' ∧ wp q g n' D' p' s' ∧ fr s s' [401] ∧ frp p p' [400] ∧ ext n D n' D' ∧ fk p c n' p' c' [400] ∧ (s' 401 = s 401 + 15) ∧ (wrl (pMe (c 3 0) (c 3 1) (c 3 2) (c 3 3) (c 3 4) W) (s' 401) (s' 1601) (s' 1602) (c' (p' 400)))) := by
  refine tt_k 3 (S' := (7, [some (.inr (.inl 0)), none, none, none, none], [.inl 248, .inr (.inl 4)], n, D, s, p, c)) rfl ?_
  have b1 : 0 ≤ (s 401) ∧ (s 401) ≤ 262144 := hS 401
  have b2 : 0 ≤ (s 1601) ∧ (s 1601) ≤ 255 := hS 1601
  have b3 : 1 ≤ (s 1602) ∧ (s 1602) ≤ 8 := hS 1602
  refine tt_cl (by omega) rfl (e_addMark4 (Zi := Zi) (q := q) (n := n) (D := D) (s := s) (p := p) (c := c) (by omega) hz (by omega) hD hS hC hW W 248 (by omega) (show (s 401) ≤ 262142 by omega) hp1) ?_
  rintro _ _ ⟨n4, D5, s6, p7, c8, rfl, rfl, hS6, hC8, hW9, f10, g11, xe12, kf13, k14, k15⟩
  have FK16 : fk p c n4 p7 c8 [400] := fk_tr (fk_rf hD) kf13 (by decide)
  show tt Zi d 112 (10, [some (.inr (.inl 0)), none, none, none, none], [], n4, D5, s6, p7, c8) _
  replace k14 : (s6 401) = (s 401) + 2 := k14
  have b17 : 0 ≤ (s6 401) ∧ (s6 401) ≤ 262144 := hS6 401
  have b18 : 0 ≤ (s6 1601) ∧ (s6 1601) ≤ 255 := hS6 1601
  have b19 : 1 ≤ (s6 1602) ∧ (s6 1602) ≤ 8 := hS6 1602
  refine tt_k 3 (S' := (16, [some (.inr (.inl 0)), none, none, none, none], [.inl 13, .inr (.inl 4)], n4, D5, s6, p7, c8)) rfl ?_
  refine tt_cl (by omega) rfl (e_addTwo4 (Zi := Zi) (q := q) (n := n4) (D := D5) (s := s6) (p := p7) (c := c8) (by omega) hz (by omega) FK16.1 hS6 hC8 hW9 (wAdd (wAdd W 255) 248) 13 (by omega) (show (s6 401) ≤ 262142 by omega) k15) ?_
  rintro _ _ ⟨n20, D21, s22, p23, c24, rfl, rfl, hS22, hC24, hW25, f26, g27, xe28, kf29, k30, k31⟩
  have FK32 : fk p c n20 p23 c24 [400] := fk_tr FK16 kf29 (by decide)
  show tt Zi d 112 (19, [some (.inr (.inl 0)), none, none, none, none], [], n20, D21, s22, p23, c24) _
  replace k30 : (s22 401) = (s6 401) + 2 := k30
  have b33 : 0 ≤ (s22 401) ∧ (s22 401) ≤ 262144 := hS22 401
  have b34 : 0 ≤ (s22 1601) ∧ (s22 1601) ≤ 255 := hS22 1601
  have b35 : 1 ≤ (s22 1602) ∧ (s22 1602) ≤ 8 := hS22 1602
  refine tt_k 3 (S' := (24, [some (.inr (.inl 0)), none, none, none, none], [.inl 1, .inr (.inl 4)], n20, D21, s22, p23, c24)) rfl ?_
  refine tt_cl (by omega) rfl (e_add4 (Zi := Zi) (q := q) (n := n20) (D := D21) (s := s22) (p := p23) (c := c24) (by omega) hz (by omega) FK32.1 hS22 hC24 hW25 (wAdd (wAdd (wAdd (wAdd W 255) 248) (mi_shr 13 8)) 13) 1 (by omega) (show (s22 401) ≤ 262143 by omega) k31) ?_
  rintro _ _ ⟨n36, D37, s38, p39, c40, rfl, rfl, hS38, hC40, hW41, f42, g43, xe44, kf45, k46, k47⟩
  have FK48 : fk p c n36 p39 c40 [400] := fk_tr FK32 kf45 (by decide)
  show tt Zi d 112 (27, [some (.inr (.inl 0)), none, none, none, none], [], n36, D37, s38, p39, c40) _
  replace k46 : (s38 401) = (s22 401) + 1 := k46
  have b49 : 0 ≤ (s38 401) ∧ (s38 401) ≤ 262144 := hS38 401
  have b50 : 0 ≤ (s38 1601) ∧ (s38 1601) ≤ 255 := hS38 1601
  have b51 : 1 ≤ (s38 1602) ∧ (s38 1602) ≤ 8 := hS38 1602
  refine tt_k 8 (S' := (37, [some (.inr (.inl 0)), some (.inr (.inl 3)), some (.inl 5), some (.inl 0), none], [], n36, D37, s38, p39, c40)) rfl ?_
  refine e_writeMeasures_L37 (Zi := Zi) (q := q) (n := n36) (D := D37) (s := s38) (p := p39) (c := c40) hd hz (by omega) FK48.1 hS38 hC40 hW41 (pMl (f5 (c 3 0) (c 3 1) (c 3 2) (c 3 3) (c 3 4)) 5 0 (wAdd (wAdd (wAdd (wAdd (wAdd W 255) 248) (mi_shr 13 8)) 13) 1)) 5 (by omega) (show (s38 401) ≤ 200200 by omega)  ?_ _ 0 (none) n36 D37 s38 p39 c40 (by omega) hS38 fr_rf hC40 hW41 frp_rf ext_rf (fk_rf FK48.1) (show (s38 401) = (s38 401) + 2 * 0 by omega) ⟨_, k47, by rw [fk_c (k := 3) FK48 (by decide)]; rfl⟩ (Nat.lt_succ_self _)
  intro x52 x53 n54 D55 s56 p57 c58 b59 hS56 f60 hC58 hW61 g62 xe63 kf64 i65 i66 hx67
  show tt Zi d 112 (62, [some (.inr (.inl 0)), some (.inr (.inl 3)), some (.inl 5), some (.inl x52), x53], [], n54, D55, s56, p57, c58) _
  have FK68 : fk p c n54 p57 c58 [400] := fk_tr FK48 kf64 (by decide)
  replace i65 : (s56 401) = (s38 401) + 2 * x52 := i65
  have b69 : 0 ≤ (s56 401) ∧ (s56 401) ≤ 262144 := hS56 401
  replace hx67 : 5 ≤ x52 := hx67
  obtain ⟨W9, hw9, hw8⟩ := i66
  rw [show (5 - x52).toNat = 0 by omega, pMl] at hw8
  exact tt_rtv rfl rfl ⟨n54, D55, s56, p57, c58, rfl, rfl, hS56, hC58, hW61, (fr_tr (fr_tr (fr_tr (fr_tr fr_rf f10 (by decide)) f26 (by decide)) f42 (by decide)) f60 (by decide)), (frp_tr (frp_tr (frp_tr (frp_tr frp_rf g11 (by decide)) g27 (by decide)) g43 (by decide)) g62 (by decide)), (ext_tr (ext_tr (ext_tr (ext_tr ext_rf xe12) xe28) xe44) xe63), FK68, by show (s56 401) = s 401 + 15; omega, by show wrl (pMe (c 3 0) (c 3 1) (c 3 2) (c 3 3) (c 3 4) W) ((s56 401)) ((s56 1601)) ((s56 1602)) (c58 (p57 400)); have h := hw9; rw [hw8] at h; exact h⟩
set_option maxRecDepth 100000 in
set_option maxHeartbeats 4000000 in
theorem e_writeScan {g : Nat → Int} {Zi : Nat → Option (Nat × (Nat → Int))} {d n q : Nat} {D : Nat → Nat × Nat} {s : Nat → Int} {p : Nat → Nat} {c : Nat → Nat → Int} (hd : 3 ≤ d) (hz : zk Zi) (hq : q + 6 ≤ 400000) (hD : wd n p) (hS : bS s) (hC : bC D c) (hW : wp q g n D p s) (W : WT) (pn : Int) (nr : Int) (b_pn : 0 ≤ pn ∧ pn ≤ 2) (b_nr : -2147483648 ≤ nr ∧ nr ≤ 2147483647) (hp0 : s 401 ≤ 200100) (hp1 : wrl W (s 401) (s 1601) (s 1602) (c (p 400))) : tt Zi d 113 (0, [some (.inr (.inl 0)), some (.inl pn), some (.inl nr)], [], n, D, s, p, c) (fun R H => ∃ (n' : Nat) (D' : Nat → Nat × Nat) (s' : Nat → Int) (p' : Nat → Nat) (c' : Nat → Nat → Int), R = .inl none ∧ H = (n', D', s', p', c') ∧ bS s' ∧ bC D' c' ∧ wp q g n' D' p' s' ∧ fr s s' [401] ∧ frp p p' [400] ∧ ext n D n' D' ∧ fk p c n' p' c' [400] ∧ (s' 401 = s 401 + 10) ∧ (wrl (pSc pn nr W) (s' 401) (s' 1601) (s' 1602) (c' (p' 400)))) := by
  refine tt_k 3 (S' := (7, [some (.inr (.inl 0)), some (.inl pn), some (.inl nr)], [.inl 218, .inr (.inl 4)], n, D, s, p, c)) rfl ?_
  have b1 : 0 ≤ (s 401) ∧ (s 401) ≤ 262144 := hS 401
  have b2 : 0 ≤ (s 1601) ∧ (s 1601) ≤ 255 := hS 1601
  have b3 : 1 ≤ (s 1602) ∧ (s 1602) ≤ 8 := hS 1602
  refine tt_cl (by omega) rfl (e_addMark4 (Zi := Zi) (q := q) (n := n) (D := D) (s := s) (p := p) (c := c) (by omega) hz (by omega) hD hS hC hW W 218 (by omega) (show (s 401) ≤ 262142 by omega) hp1) ?_
  rintro _ _ ⟨n4, D5, s6, p7, c8, rfl, rfl, hS6, hC8, hW9, f10, g11, xe12, kf13, k14, k15⟩
  have FK16 : fk p c n4 p7 c8 [400] := fk_tr (fk_rf hD) kf13 (by decide)
  show tt Zi d 113 (10, [some (.inr (.inl 0)), some (.inl pn), some (.inl nr)], [], n4, D5, s6, p7, c8) _
  replace k14 : (s6 401) = (s 401) + 2 := k14
  have b17 : 0 ≤ (s6 401) ∧ (s6 401) ≤ 262144 := hS6 401
  have b18 : 0 ≤ (s6 1601) ∧ (s6 1601) ≤ 255 := hS6 1601
  have b19 : 1 ≤ (s6 1602) ∧ (s6 1602) ≤ 8 := hS6 1602
  refine tt_k 3 (S' := (16, [some (.inr (.inl 0)), some (.inl pn), some (.inl nr)], [.inl 8, .inr (.inl 4)], n4, D5, s6, p7, c8)) rfl ?_
  refine tt_cl (by omega) rfl (e_addTwo4 (Zi := Zi) (q := q) (n := n4) (D := D5) (s := s6) (p := p7) (c := c8) (by omega) hz (by omega) FK16.1 hS6 hC8 hW9 (wAdd (wAdd W 255) 218) 8 (by omega) (show (s6 401) ≤ 262142 by omega) k15) ?_
  rintro _ _ ⟨n20, D21, s22, p23, c24, rfl, rfl, hS22, hC24, hW25, f26, g27, xe28, kf29, k30, k31⟩
  have FK32 : fk p c n20 p23 c24 [400] := fk_tr FK16 kf29 (by decide)
  show tt Zi d 113 (19, [some (.inr (.inl 0)), some (.inl pn), some (.inl nr)], [], n20, D21, s22, p23, c24) _
  replace k30 : (s22 401) = (s6 401) + 2 := k30
  have b33 : 0 ≤ (s22 401) ∧ (s22 401) ≤ 262144 := hS22 401
  have b34 : 0 ≤ (s22 1601) ∧ (s22 1601) ≤ 255 := hS22 1601
  have b35 : 1 ≤ (s22 1602) ∧ (s22 1602) ≤ 8 := hS22 1602
  refine tt_k 3 (S' := (24, [some (.inr (.inl 0)), some (.inl pn), some (.inl nr)], [.inl 1, .inr (.inl 4)], n20, D21, s22, p23, c24)) rfl ?_
  refine tt_cl (by omega) rfl (e_add4 (Zi := Zi) (q := q) (n := n20) (D := D21) (s := s22) (p := p23) (c := c24) (by omega) hz (by omega) FK32.1 hS22 hC24 hW25 (wAdd (wAdd (wAdd (wAdd W 255) 218) (mi_shr 8 8)) 8) 1 (by omega) (show (s22 401) ≤ 262143 by omega) k31) ?_
  rintro _ _ ⟨n36, D37, s38, p39, c40, rfl, rfl, hS38, hC40, hW41, f42, g43, xe44, kf45, k46, k47⟩
  have FK48 : fk p c n36 p39 c40 [400] := fk_tr FK32 kf45 (by decide)
  show tt Zi d 113 (27, [some (.inr (.inl 0)), some (.inl pn), some (.inl nr)], [], n36, D37, s38, p39, c40) _
  replace k46 : (s38 401) = (s22 401) + 1 := k46
  have b49 : 0 ≤ (s38 401) ∧ (s38 401) ≤ 262144 := hS38 401
  have b50 : 0 ≤ (s38 1601) ∧ (s38 1601) ≤ 255 := hS38 1601
  have b51 : 1 ≤ (s38 1602) ∧ (s38 1602) ≤ 8 := hS38 1602
  refine tt_k 5 (S' := (34, [some (.inr (.inl 0)), some (.inl pn), some (.inl nr)], [.inl (pn + 1), .inr (.inl 4)], n36, D37, s38, p39, c40)) rfl ?_
  refine tt_cl (by omega) rfl (e_add4 (Zi := Zi) (q := q) (n := n36) (D := D37) (s := s38) (p := p39) (c := c40) (by omega) hz (by omega) FK48.1 hS38 hC40 hW41 (wAdd (wAdd (wAdd (wAdd (wAdd W 255) 218) (mi_shr 8 8)) 8) 1) (pn + 1) (by omega) (show (s38 401) ≤ 262143 by omega) k47) ?_
  rintro _ _ ⟨n52, D53, s54, p55, c56, rfl, rfl, hS54, hC56, hW57, f58, g59, xe60, kf61, k62, k63⟩
  have FK64 : fk p c n52 p55 c56 [400] := fk_tr FK48 kf61 (by decide)
  show tt Zi d 113 (37, [some (.inr (.inl 0)), some (.inl pn), some (.inl nr)], [], n52, D53, s54, p55, c56) _
  replace k62 : (s54 401) = (s38 401) + 1 := k62
  have b65 : 0 ≤ (s54 401) ∧ (s54 401) ≤ 262144 := hS54 401
  have b66 : 0 ≤ (s54 1601) ∧ (s54 1601) ≤ 255 := hS54 1601
  have b67 : 1 ≤ (s54 1602) ∧ (s54 1602) ≤ 8 := hS54 1602
  refine tt_k 3 (S' := (42, [some (.inr (.inl 0)), some (.inl pn), some (.inl nr)], [.inl 0, .inr (.inl 4)], n52, D53, s54, p55, c56)) rfl ?_
  refine tt_cl (by omega) rfl (e_add4 (Zi := Zi) (q := q) (n := n52) (D := D53) (s := s54) (p := p55) (c := c56) (by omega) hz (by omega) FK64.1 hS54 hC56 hW57 (wAdd (wAdd (wAdd (wAdd (wAdd (wAdd W 255) 218) (mi_shr 8 8)) 8) 1) (pn + 1)) 0 (by omega) (show (s54 401) ≤ 262143 by omega) k63) ?_
  rintro _ _ ⟨n68, D69, s70, p71, c72, rfl, rfl, hS70, hC72, hW73, f74, g75, xe76, kf77, k78, k79⟩
  have FK80 : fk p c n68 p71 c72 [400] := fk_tr FK64 kf77 (by decide)
  show tt Zi d 113 (45, [some (.inr (.inl 0)), some (.inl pn), some (.inl nr)], [], n68, D69, s70, p71, c72) _
  replace k78 : (s70 401) = (s54 401) + 1 := k78
  have b81 : 0 ≤ (s70 401) ∧ (s70 401) ≤ 262144 := hS70 401
  have b82 : 0 ≤ (s70 1601) ∧ (s70 1601) ≤ 255 := hS70 1601
  have b83 : 1 ≤ (s70 1602) ∧ (s70 1602) ≤ 8 := hS70 1602
  refine tt_k 3 (S' := (50, [some (.inr (.inl 0)), some (.inl pn), some (.inl nr)], [.inl nr, .inr (.inl 4)], n68, D69, s70, p71, c72)) rfl ?_
  refine tt_cl (by omega) rfl (e_add4 (Zi := Zi) (q := q) (n := n68) (D := D69) (s := s70) (p := p71) (c := c72) (by omega) hz (by omega) FK80.1 hS70 hC72 hW73 (wAdd (wAdd (wAdd (wAdd (wAdd (wAdd (wAdd W 255) 218) (mi_shr 8 8)) 8) 1) (pn + 1)) 0) nr (by omega) (show (s70 401) ≤ 262143 by omega) k79) ?_
  rintro _ _ ⟨n84, D85, s86, p87, c88, rfl, rfl, hS86, hC88, hW89, f90, g91, xe92, kf93, k94, k95⟩
  have FK96 : fk p c n84 p87 c88 [400] := fk_tr FK80 kf93 (by decide)
  show tt Zi d 113 (53, [some (.inr (.inl 0)), some (.inl pn), some (.inl nr)], [], n84, D85, s86, p87, c88) _
  replace k94 : (s86 401) = (s70 401) + 1 := k94
  have b97 : 0 ≤ (s86 401) ∧ (s86 401) ≤ 262144 := hS86 401
  have b98 : 0 ≤ (s86 1601) ∧ (s86 1601) ≤ 255 := hS86 1601
  have b99 : 1 ≤ (s86 1602) ∧ (s86 1602) ≤ 8 := hS86 1602
  refine tt_k 3 (S' := (58, [some (.inr (.inl 0)), some (.inl pn), some (.inl nr)], [.inl 0, .inr (.inl 4)], n84, D85, s86, p87, c88)) rfl ?_
  refine tt_cl (by omega) rfl (e_add4 (Zi := Zi) (q := q) (n := n84) (D := D85) (s := s86) (p := p87) (c := c88) (by omega) hz (by omega) FK96.1 hS86 hC88 hW89 (wAdd (wAdd (wAdd (wAdd (wAdd (wAdd (wAdd (wAdd W 255) 218) (mi_shr 8 8)) 8) 1) (pn + 1)) 0) nr) 0 (by omega) (show (s86 401) ≤ 262143 by omega) k95) ?_
  rintro _ _ ⟨n100, D101, s102, p103, c104, rfl, rfl, hS102, hC104, hW105, f106, g107, xe108, kf109, k110, k111⟩
  have FK112 : fk p c n100 p103 c104 [400] := fk_tr FK96 kf109 (by decide)
  show tt Zi d 113 (61, [some (.inr (.inl 0)), some (.inl pn), some (.inl nr)], [], n100, D101, s102, p103, c104) _
  replace k110 : (s102 401) = (s86 401) + 1 := k110
  have b113 : 0 ≤ (s102 401) ∧ (s102 401) ≤ 262144 := hS102 401
  have b114 : 0 ≤ (s102 1601) ∧ (s102 1601) ≤ 255 := hS102 1601
  have b115 : 1 ≤ (s102 1602) ∧ (s102 1602) ≤ 8 := hS102 1602
  refine tt_k 3 (S' := (66, [some (.inr (.inl 0)), some (.inl pn), some (.inl nr)], [.inl 0, .inr (.inl 4)], n100, D101, s102, p103, c104)) rfl ?_
  refine tt_cl (by omega) rfl (e_add4 (Zi := Zi) (q := q) (n := n100) (D := D101) (s := s102) (p := p103) (c := c104) (by omega) hz (by omega) FK112.1 hS102 hC104 hW105 (wAdd (wAdd (wAdd (wAdd (wAdd (wAdd (wAdd (wAdd (wAdd W 255) 218) (mi_shr 8 8)) 8) 1) (pn + 1)) 0) nr) 0) 0 (by omega) (show (s102 401) ≤ 262143 by omega) k111) ?_
  rintro _ _ ⟨n116, D117, s118, p119, c120, rfl, rfl, hS118, hC120, hW121, f122, g123, xe124, kf125, k126, k127⟩
  have FK128 : fk p c n116 p119 c120 [400] := fk_tr FK112 kf125 (by decide)
  show tt Zi d 113 (69, [some (.inr (.inl 0)), some (.inl pn), some (.inl nr)], [], n116, D117, s118, p119, c120) _
  replace k126 : (s118 401) = (s102 401) + 1 := k126
  have b129 : 0 ≤ (s118 401) ∧ (s118 401) ≤ 262144 := hS118 401
  have b130 : 0 ≤ (s118 1601) ∧ (s118 1601) ≤ 255 := hS118 1601
  have b131 : 1 ≤ (s118 1602) ∧ (s118 1602) ≤ 8 := hS118 1602
  exact tt_rtv rfl rfl ⟨n116, D117, s118, p119, c120, rfl, rfl, hS118, hC120, hW121, (fr_tr (fr_tr (fr_tr (fr_tr (fr_tr (fr_tr (fr_tr (fr_tr fr_rf f10 (by decide)) f26 (by decide)) f42 (by decide)) f58 (by decide)) f74 (by decide)) f90 (by decide)) f106 (by decide)) f122 (by decide)), (frp_tr (frp_tr (frp_tr (frp_tr (frp_tr (frp_tr (frp_tr (frp_tr frp_rf g11 (by decide)) g27 (by decide)) g43 (by decide)) g59 (by decide)) g75 (by decide)) g91 (by decide)) g107 (by decide)) g123 (by decide)), (ext_tr (ext_tr (ext_tr (ext_tr (ext_tr (ext_tr (ext_tr (ext_tr ext_rf xe12) xe28) xe44) xe60) xe76) xe92) xe108) xe124), FK128, by show (s118 401) = s 401 + 10; omega, k127⟩
