/-! the class reads a FRAME, exactly -/
set_option maxRecDepth 100000 in
set_option maxHeartbeats 4000000 in
theorem e_readFrame25_L144 {g : Nat → Int} {Zi : Nat → Option (Nat × (Nat → Int))} {d n q : Nat} {D : Nat → Nat × Nat} {s : Nat → Int} {p : Nat → Nat} {c : Nat → Nat → Int}  {Q : mi_Rs → mi_H → Prop} (hd : 6 ≤ d) (hz : zk Zi) (hq : q + 12 ≤ 400001) (hD : wd n p) (hS : bS s) (hC : bC D c) (hW : wp q g n D p s) (A : TN) (aa : Int) (ln_ : Int) (lp_ : Int) (dp_ : Int) (hg : Int) (wd : Int) (pl_ : Int) (b_ln_ : -2147483648 ≤ ln_ ∧ ln_ ≤ 2147483647) (b_lp_ : -2147483648 ≤ lp_ ∧ lp_ ≤ 2147483647) (b_dp_ : -2147483648 ≤ dp_ ∧ dp_ ≤ 2147483647) (b_hg : -2147483648 ≤ hg ∧ hg ≤ 2147483647) (b_wd : -2147483648 ≤ wd ∧ wd ≤ 2147483647) (b_pl_ : 0 ≤ pl_ ∧ pl_ ≤ 3) (hq0 : tpl A (s 601) (c (p 600))) (hX12 : ∀ H, cXp (q + 1) g s p c [19] [800, 801, 802, 803, 804, 805, 806, 807, 808, 809, 902, 1705, 1706, 2001, 2002, 2003, 2004, 2005, 2006, 2106, 2107, 2108, 2109, 2110, 2111, 2112, 2113, 2114, 2115, 2116, 2500, 2501, 2502, 2503] H → (¬ nmO A aa pl_ ∨ A.2 < aa + 8 + 3 * pl_) → Q (.inr 12) H)
  (hK : ∀ (pn : Int) (s0 : Nat → Int) (c0 : Nat → Nat → Int) (b_pn : 0 ≤ pn ∧ pn ≤ 3) (hS0 : bS s0) (hF0 : fr s s0 [2001]) (hC0 : bC D c0) (hW0 : wp q g n D p s0) (hK0 : fk p c n p c0 [19]) (i0 : pn ≤ pl_) (i1 : nmO A aa pn) (i2 : s0 2001 = aa + 8 + 3 * pn ∧ s0 2001 ≤ s 601) (i3 : ∀ j : Int, 0 ≤ j → j < pn → c0 19 j.toNat = qN A aa j), (pl_ ≤ pn) → tt Zi d 80 (180, [some (.inr (.inl 17)), some (.inr (.inl 25)), some (.inl ln_), some (.inl lp_), some (.inl dp_), some (.inl hg), some (.inl wd), some (.inl pl_), some (.inl pn)], [], n, D, s0, p, c0) Q) :
  ∀ (m : Nat) (pn : Int) (s0 : Nat → Int) (c0 : Nat → Nat → Int) (b_pn : 0 ≤ pn ∧ pn ≤ 3) (hS0 : bS s0) (hF0 : fr s s0 [2001]) (hC0 : bC D c0) (hW0 : wp q g n D p s0) (hK0 : fk p c n p c0 [19]) (i0 : pn ≤ pl_) (i1 : nmO A aa pn) (i2 : s0 2001 = aa + 8 + 3 * pn ∧ s0 2001 ≤ s 601) (i3 : ∀ j : Int, 0 ≤ j → j < pn → c0 19 j.toNat = qN A aa j), (pl_ - pn).toNat < m → tt Zi d 80 (144, [some (.inr (.inl 17)), some (.inr (.inl 25)), some (.inl ln_), some (.inl lp_), some (.inl dp_), some (.inl hg), some (.inl wd), some (.inl pl_), some (.inl pn)], [], n, D, s0, p, c0) Q := by
  intro m
  induction m with
  | zero => intro pn s0 c0 b_pn hS0 hF0 hC0 hW0 hK0 i0 i1 i2 i3 hm; exact absurd hm (by omega)
  | succ m ih =>
    intro pn s0 c0 b_pn hS0 hF0 hC0 hW0 hK0 i0 i1 i2 i3 hm
    have e1 : s0 601 = s 601 := hF0 601 (by decide)
    have b2 : 0 ≤ (s0 601) ∧ (s0 601) ≤ 32768 := hS0 601
    have b3 : 0 ≤ (s 601) ∧ (s 601) ≤ 32768 := hS 601
    have htp : tpl A (s0 601) (c0 (p 600)) := by rw [hF0 601 (by decide), fk_k (k := 600) hK0 (by decide)]; exact hq0
    have hA := hq0.1
    refine tt_k 2 (S' := (148, [some (.inr (.inl 17)), some (.inr (.inl 25)), some (.inl ln_), some (.inl lp_), some (.inl dp_), some (.inl hg), some (.inl wd), some (.inl pl_), some (.inl pn)], [.inl pl_, .inl pn], n, D, s0, p, c0)) rfl ?_
    refine tb_ge (x := pn) (y := pl_) rfl rfl (by omega) (fun h4 => ?_) (fun h4 => ?_)
    · show tt Zi d 80 (180, [some (.inr (.inl 17)), some (.inr (.inl 25)), some (.inl ln_), some (.inl lp_), some (.inl dp_), some (.inl hg), some (.inl wd), some (.inl pl_), some (.inl pn)], [], n, D, s0, p, c0) _
      exact hK pn s0 c0 (by omega) hS0 hF0 hC0 hW0 hK0 i0 i1 i2 i3 (by omega)
    · show tt Zi d 80 (151, [some (.inr (.inl 17)), some (.inr (.inl 25)), some (.inl ln_), some (.inl lp_), some (.inl dp_), some (.inl hg), some (.inl wd), some (.inl pl_), some (.inl pn)], [], n, D, s0, p, c0) _
      refine tt_k 2 (S' := (154, [some (.inr (.inl 17)), some (.inr (.inl 25)), some (.inl ln_), some (.inl lp_), some (.inl dp_), some (.inl hg), some (.inl wd), some (.inl pl_), some (.inl pn)], [.inl pn, .inr (.inl 17)], n, D, s0, p, c0)) rfl ?_
      refine tt_cl (by omega) rfl (e_readName (Zi := Zi) (q := q) (n := n) (D := D) (s := s0) (p := p) (c := c0) (by omega) hz (by omega) hK0.1 hS0 hC0 hW0 A pn (by omega) htp) ?_
      rintro _ H1 (⟨s5, c6, rfl, rfl, hS5, hC6, hW7, f8, kf9, k10, k11, k12, k13, k14⟩ | ⟨rfl, hY15, hn16⟩)
      rotate_left
      · exact tt_ax rfl (hX12 _ (cXp_mono (cXp_tr hK0 (fr_wk (show fr s s0 [2001] from hF0) (by decide)) ((frp_rf : frp p p []) 8 (by decide)) hY15 (by decide) (by decide)) (by omega)) (by exact (hn16).elim (fun h3 => Or.inr (by omega)) (fun ⟨j, hj, h3⟩ => Or.inl (fun h4 => h4.2 j pn hj.1 hj.2 (by omega) (by rw [← i3 j hj.1 hj.2, h3]; unfold qN; rw [show aa + 8 + 3 * pn = s0 2001 by omega])))))
      have FK17 : fk p c n p c6 [19] := fk_tr hK0 kf9 (by decide)
      show tt Zi d 80 (157, [some (.inr (.inl 17)), some (.inr (.inl 25)), some (.inl ln_), some (.inl lp_), some (.inl dp_), some (.inl hg), some (.inl wd), some (.inl pl_), some (.inl pn)], [], n, D, s5, p, c6) _
      replace k10 : (s5 2001) = (s0 2001) + 1 := k10
      replace k11 : (s5 2001) ≤ (s0 601) := k11
      replace k14 : (s0 2001) < A.2 := k14
      have b18 : 0 ≤ (s0 2001) ∧ (s0 2001) ≤ 100000 := hS0 2001
      have b19 : 0 ≤ (s5 2001) ∧ (s5 2001) ≤ 100000 := hS5 2001
      have e20 : s5 601 = (s0 601) := (f8 601 (by decide))
      have b21 : 0 ≤ (s5 601) ∧ (s5 601) ≤ 32768 := hS5 601
      have hx22 : tpl A (s5 601) (c6 (p 600)) := by rw [f8 601 (by decide), fk_k (k := 600) kf9 (by decide)]; exact htp
      refine tt_k 3 (S' := (163, [some (.inr (.inl 17)), some (.inr (.inl 25)), some (.inl ln_), some (.inl lp_), some (.inl dp_), some (.inl hg), some (.inl wd), some (.inl pl_), some (.inl pn)], [.inl 17, .inr (.inl 20)], n, D, s5, p, c6)) rfl ?_
      refine tt_cl (by omega) rfl (e_expect (Zi := Zi) (q := q) (n := n) (D := D) (s := s5) (p := p) (c := c6) (by omega) hz (by omega) FK17.1 hS5 hC6 hW7 A 17 (by omega) hx22) ?_
      rintro _ H1 (⟨s23, rfl, rfl, hS23, hW24, f25, k26, k27, k28⟩ | ⟨rfl, hY29, hn30⟩)
      rotate_left
      · exact tt_ax rfl (hX12 _ (cXp_mono (cXp_tr FK17 (fr_wk (show fr s s5 [2001] from (fr_tr hF0 f8 (by decide))) (by decide)) ((frp_rf : frp p p []) 8 (by decide)) hY29 (by decide) (by decide)) (by omega)) (by have h2 := rdB_gx (a := aa + 9 + 3 * pn) (by rw [show aa + 9 + 3 * pn = s5 2001 by omega]; exact hn30); exact h2.elim (fun h3 => Or.inr (by omega)) (fun h3 => Or.inl (fun h4 => h3 (h4.1 pn (by omega) (by omega)).1))))
      show tt Zi d 80 (166, [some (.inr (.inl 17)), some (.inr (.inl 25)), some (.inl ln_), some (.inl lp_), some (.inl dp_), some (.inl hg), some (.inl wd), some (.inl pl_), some (.inl pn)], [], n, D, s23, p, c6) _
      replace k26 : rdB A ((s5 2001)) = some 17 := k26
      replace k27 : (s23 2001) = (s5 2001) + 1 := k27
      replace k28 : (s23 2001) ≤ (s5 601) := k28
      have b31 : 0 ≤ (s23 2001) ∧ (s23 2001) ≤ 100000 := hS23 2001
      have e32 : s23 601 = (s5 601) := (f25 601 (by decide))
      have b33 : 0 ≤ (s23 601) ∧ (s23 601) ≤ 32768 := hS23 601
      have hx34 : tpl A (s23 601) (c6 (p 600)) := by rw [f25 601 (by decide)]; exact hx22
      have hx9 : aa + 9 + 3 * pn < A.2 ∧ gB A (aa + 9 + 3 * pn) = 17 := rdB_g (by rw [show aa + 9 + 3 * pn = s5 2001 by omega]; exact k26)
      refine tt_k 3 (S' := (171, [some (.inr (.inl 17)), some (.inr (.inl 25)), some (.inl ln_), some (.inl lp_), some (.inl dp_), some (.inl hg), some (.inl wd), some (.inl pl_), some (.inl pn)], [.inl 0, .inr (.inl 20)], n, D, s23, p, c6)) rfl ?_
      refine tt_cl (by omega) rfl (e_expect (Zi := Zi) (q := q) (n := n) (D := D) (s := s23) (p := p) (c := c6) (by omega) hz (by omega) FK17.1 hS23 hC6 hW24 A 0 (by omega) hx34) ?_
      rintro _ H1 (⟨s35, rfl, rfl, hS35, hW36, f37, k38, k39, k40⟩ | ⟨rfl, hY41, hn42⟩)
      rotate_left
      · exact tt_ax rfl (hX12 _ (cXp_mono (cXp_tr FK17 (fr_wk (show fr s s23 [2001] from (fr_tr (fr_tr hF0 f8 (by decide)) f25 (by decide))) (by decide)) ((frp_rf : frp p p []) 8 (by decide)) hY41 (by decide) (by decide)) (by omega)) (by have h2 := rdB_gx (a := aa + 10 + 3 * pn) (by rw [show aa + 10 + 3 * pn = s23 2001 by omega]; exact hn42); exact h2.elim (fun h3 => Or.inr (by omega)) (fun h3 => Or.inl (fun h4 => h3 (h4.1 pn (by omega) (by omega)).2))))
      show tt Zi d 80 (174, [some (.inr (.inl 17)), some (.inr (.inl 25)), some (.inl ln_), some (.inl lp_), some (.inl dp_), some (.inl hg), some (.inl wd), some (.inl pl_), some (.inl pn)], [], n, D, s35, p, c6) _
      replace k38 : rdB A ((s23 2001)) = some 0 := k38
      replace k39 : (s35 2001) = (s23 2001) + 1 := k39
      replace k40 : (s35 2001) ≤ (s23 601) := k40
      have b43 : 0 ≤ (s35 2001) ∧ (s35 2001) ≤ 100000 := hS35 2001
      have e44 : s35 601 = (s23 601) := (f37 601 (by decide))
      have b45 : 0 ≤ (s35 601) ∧ (s35 601) ≤ 32768 := hS35 601
      have hx46 : tpl A (s35 601) (c6 (p 600)) := by rw [f37 601 (by decide)]; exact hx34
      have hx10 : aa + 10 + 3 * pn < A.2 ∧ gB A (aa + 10 + 3 * pn) = 0 := rdB_g (by rw [show aa + 10 + 3 * pn = s23 2001 by omega]; exact k38)
      refine tt_k 2 (S' := (144, [some (.inr (.inl 17)), some (.inr (.inl 25)), some (.inl ln_), some (.inl lp_), some (.inl dp_), some (.inl hg), some (.inl wd), some (.inl pl_), some (.inl (pn + 1))], [], n, D, s35, p, c6)) rfl ?_
      have hqn : gB A (s0 2001) = qN A aa pn := by unfold qN; rw [show aa + 8 + 3 * pn = s0 2001 by omega]
      have hk3 := k13
      have hk2 := k12
      rw [hqn] at hk3 hk2
      exact ih (pn + 1) s35 c6 (by omega) hS35 (fr_tr (fr_tr (fr_tr hF0 f8 (by decide)) f25 (by decide)) f37 (by decide)) hC6 hW36 FK17 (show (pn + 1) ≤ pl_ by omega) (nmO_s i1 ⟨hx9.2, hx10.2⟩ (fun j h1 h2 => by rw [← i3 j h1 h2]; exact hk3 j h1 h2)) (show (s35 2001) = aa + 8 + 3 * (pn + 1) ∧ (s35 2001) ≤ s 601 by omega) (fun j h1 h2 => by rw [hk2]; exact if e : j = pn then (by rw [e, ua_eq]) else (by rw [ua_ne (by omega)]; exact i3 j h1 (by omega))) (show (pl_ - (pn + 1)).toNat < m by omega)
set_option maxRecDepth 100000 in
set_option maxHeartbeats 4000000 in
theorem e_readFrame25 {g : Nat → Int} {Zi : Nat → Option (Nat × (Nat → Int))} {d n q : Nat} {D : Nat → Nat × Nat} {s : Nat → Int} {p : Nat → Nat} {c : Nat → Nat → Int} (hd : 6 ≤ d) (hz : zk Zi) (hq : q + 12 ≤ 400000) (hD : wd n p) (hS : bS s) (hC : bC D c) (hW : wp q g n D p s) (A : TN) (hp0 : tpl A (s 601) (c (p 600))) : tt Zi d 80 (0, [some (.inr (.inl 17)), some (.inr (.inl 25)), none, none, none, none, none, none, none], [], n, D, s, p, c) (fun R H => (∃ (n' : Nat) (D' : Nat → Nat × Nat) (s' : Nat → Int) (p' : Nat → Nat) (c' : Nat → Nat → Int), R = .inl none ∧ H = (n', D', s', p', c') ∧ bS s' ∧ bC D' c' ∧ wp q g n' D' p' s' ∧ fr s s' [1705, 1706, 2001, 2500, 2501, 2502, 2503] ∧ frp p p' [2504] ∧ ext n D n' D' ∧ fk p c n' p' c' [19, 2504] ∧ (okF A (s 2001)) ∧ (s' 2001 = s 2001 + 8 + 3 * qP A (s 2001)) ∧ (s' 2001 ≤ s 601) ∧ ((s' 2500 = qW A (s 2001) ∧ s' 2501 = qH A (s 2001)) ∧ (s' 2502 = qP A (s 2001) ∧ s' 2503 = qD A (s 2001))) ∧ (s' 1705 = 1 ∧ s' 1706 = qP A (s 2001)) ∧ (∀ j : Int, 0 ≤ j → j < qP A (s 2001) → c' 19 j.toNat = qN A (s 2001) j)) ∨ (R = .inr 12 ∧ cXp ((q + 1)) g s p c [19, 2504] [800, 801, 802, 803, 804, 805, 806, 807, 808, 809, 902, 1705, 1706, 2001, 2002, 2003, 2004, 2005, 2006, 2106, 2107, 2108, 2109, 2110, 2111, 2112, 2113, 2114, 2115, 2116, 2500, 2501, 2502, 2503] H ∧ (¬ okF A (s 2001)))) := by
  have b1 : 0 ≤ (s 601) ∧ (s 601) ≤ 32768 := hS 601
  have b2 : 0 ≤ (s 2001) ∧ (s 2001) ≤ 100000 := hS 2001
  have hA := hp0.1
  refine tt_k 2 (S' := (4, [some (.inr (.inl 17)), some (.inr (.inl 25)), none, none, none, none, none, none, none], [.inr (.inl 20)], n, D, s, p, c)) rfl ?_
  refine tt_cl (by omega) rfl (e_readTwo (Zi := Zi) (q := q) (n := n) (D := D) (s := s) (p := p) (c := c) (by omega) hz (by omega) hD hS hC hW A hp0) ?_
  rintro _ H1 (⟨s3, r4, rfl, rfl, hS3, hW5, f6, b7, k8, k9, k10⟩ | ⟨rfl, hY11, hn12⟩)
  rotate_left
  · exact tt_ax rfl (Or.inr ⟨rfl, cXp_mono (cXp_tr (fk_rf hD) (show fr s s [800, 801, 802, 803, 804, 805, 806, 807, 808, 809, 902, 1705, 1706, 2001, 2002, 2003, 2004, 2005, 2006, 2106, 2107, 2108, 2109, 2110, 2111, 2112, 2113, 2114, 2115, 2116, 2500, 2501, 2502, 2503] from fr_rf) ((frp_rf : frp p p [2504]) 8 (by decide)) hY11 (by decide) (by decide)) (by omega), (fun h => by have h2 := rdTwo_gn (a := s 2001) (by rw [show s 2001 = s 2001 by omega]; exact hn12); obtain ⟨o1, o2, o3, o4, o5, o6, o7⟩ := h; omega)⟩)
  show tt Zi d 80 (7, [some (.inr (.inl 17)), some (.inr (.inl 25)), none, none, none, none, none, none, none], [.inl r4], n, D, s3, p, c) _
  replace k8 : rdTwo A ((s 2001)) = some r4 := k8
  replace k9 : (s3 2001) = (s 2001) + 2 := k9
  replace k10 : (s3 2001) ≤ (s 601) := k10
  have b13 : 0 ≤ (s3 2001) ∧ (s3 2001) ≤ 100000 := hS3 2001
  have e14 : s3 601 = (s 601) := (f6 601 (by decide))
  have b15 : 0 ≤ (s3 601) ∧ (s3 601) ≤ 32768 := hS3 601
  have hx16 : tpl A (s3 601) (c (p 600)) := by rw [f6 601 (by decide)]; exact hp0
  have hg0 : s 2001 + 1 < A.2 ∧ gT A (s 2001) = r4 := rdTwo_g (by rw [show s 2001 = s 2001 by omega]; exact k8)
  refine tt_k 3 (S' := (12, [some (.inr (.inl 17)), some (.inr (.inl 25)), some (.inl r4), none, none, none, none, none, none], [.inr (.inl 20)], n, D, s3, p, c)) rfl ?_
  refine tt_cl (by omega) rfl (g_openPlace (Zi := Zi) (q := q) (n := n) (D := D) (s := s3) (p := p) (c := c) (by omega) hz (by omega) hD hS3 hC hW5 ) ?_
  rintro _ _ ⟨r17, rfl, rfl, b18, k19⟩
  show tt Zi d 80 (15, [some (.inr (.inl 17)), some (.inr (.inl 25)), some (.inl r4), none, none, none, none, none, none], [.inl r17], n, D, s3, p, c) _
  replace k19 : r17 = (s3 2001) - 1 := k19
  refine tt_k 5 (S' := (22, [some (.inr (.inl 17)), some (.inr (.inl 25)), some (.inl r4), some (.inl (r17 - 1)), none, none, none, none, none], [.inr (.inl 20)], n, D, s3, p, c)) rfl ?_
  refine tt_cl (by omega) rfl (e_readByte (Zi := Zi) (q := q) (n := n) (D := D) (s := s3) (p := p) (c := c) (by omega) hz (by omega) hD hS3 hC hW5 A hx16) ?_
  rintro _ H1 (⟨s20, r21, rfl, rfl, hS20, hW22, f23, b24, k25, k26, k27⟩ | ⟨rfl, hY28, hn29⟩)
  rotate_left
  · exact tt_ax rfl (Or.inr ⟨rfl, cXp_mono (cXp_tr (fk_rf hD) (show fr s s3 [800, 801, 802, 803, 804, 805, 806, 807, 808, 809, 902, 1705, 1706, 2001, 2002, 2003, 2004, 2005, 2006, 2106, 2107, 2108, 2109, 2110, 2111, 2112, 2113, 2114, 2115, 2116, 2500, 2501, 2502, 2503] from (fr_tr fr_rf f6 (by decide))) ((frp_rf : frp p p [2504]) 8 (by decide)) hY28 (by decide) (by decide)) (by omega), (fun h => by have h2 := rdB_gn (a := s 2001 + 2) (by rw [show s 2001 + 2 = s3 2001 by omega]; exact hn29); obtain ⟨o1, o2, o3, o4, o5, o6, o7⟩ := h; omega)⟩)
  show tt Zi d 80 (25, [some (.inr (.inl 17)), some (.inr (.inl 25)), some (.inl r4), some (.inl (r17 - 1)), none, none, none, none, none], [.inl r21], n, D, s20, p, c) _
  replace k25 : rdB A ((s3 2001)) = some r21 := k25
  replace k26 : (s20 2001) = (s3 2001) + 1 := k26
  replace k27 : (s20 2001) ≤ (s3 601) := k27
  have b30 : 0 ≤ (s20 2001) ∧ (s20 2001) ≤ 100000 := hS20 2001
  have e31 : s20 601 = (s3 601) := (f23 601 (by decide))
  have b32 : 0 ≤ (s20 601) ∧ (s20 601) ≤ 32768 := hS20 601
  have hx33 : tpl A (s20 601) (c (p 600)) := by rw [f23 601 (by decide)]; exact hx16
  have hg2 : s 2001 + 2 < A.2 ∧ qD A (s 2001) = r21 := rdB_g (by rw [show s 2001 + 2 = s3 2001 by omega]; exact k25)
  refine tt_k 3 (S' := (30, [some (.inr (.inl 17)), some (.inr (.inl 25)), some (.inl r4), some (.inl (r17 - 1)), some (.inl r21), none, none, none, none], [.inl r21, .inr (.inl 17)], n, D, s20, p, c)) rfl ?_
  refine tt_cl (by omega) rfl (g_isDepth (Zi := Zi) (q := q) (n := n) (D := D) (s := s20) (p := p) (c := c) (by omega) hz (by omega) hD hS20 hC hW22 r21 (by omega)) ?_
  rintro _ _ ⟨r34, rfl, rfl, b35, k36⟩
  show tt Zi d 80 (33, [some (.inr (.inl 17)), some (.inr (.inl 25)), some (.inl r4), some (.inl (r17 - 1)), some (.inl r21), none, none, none, none], [.inl r34, .inr (.inl 17)], n, D, s20, p, c) _
  replace k36 : r34 = 1 ↔ (2 ≤ r21 ∧ r21 ≤ 16) := k36
  refine tt_k 2 (S' := (37, [some (.inr (.inl 17)), some (.inr (.inl 25)), some (.inl r4), some (.inl (r17 - 1)), some (.inl r21), none, none, none, none], [.inr (.inl 20), .inl r34, .inr (.inl 17)], n, D, s20, p, c)) rfl ?_
  refine tt_cl (by omega) rfl (g_openPlace (Zi := Zi) (q := q) (n := n) (D := D) (s := s20) (p := p) (c := c) (by omega) hz (by omega) hD hS20 hC hW22 ) ?_
  rintro _ _ ⟨r37, rfl, rfl, b38, k39⟩
  show tt Zi d 80 (40, [some (.inr (.inl 17)), some (.inr (.inl 25)), some (.inl r4), some (.inl (r17 - 1)), some (.inl r21), none, none, none, none], [.inl r37, .inl r34, .inr (.inl 17)], n, D, s20, p, c) _
  replace k39 : r37 = (s20 2001) - 1 := k39
  refine tt_cl (by omega) rfl (e_checkContent (Zi := Zi) (q := q) (n := n) (D := D) (s := s20) (p := p) (c := c) (by omega) hz (by omega) hD hS20 hC hW22 r34 r37 (by omega) (by omega)) ?_
  rintro _ H1 (⟨rfl, rfl, k40⟩ | ⟨rfl, hY41, hn42⟩)
  rotate_left
  · exact tt_ax rfl (Or.inr ⟨rfl, cXp_mono (cXp_tr (fk_rf hD) (show fr s s20 [800, 801, 802, 803, 804, 805, 806, 807, 808, 809, 902, 1705, 1706, 2001, 2002, 2003, 2004, 2005, 2006, 2106, 2107, 2108, 2109, 2110, 2111, 2112, 2113, 2114, 2115, 2116, 2500, 2501, 2502, 2503] from (fr_tr (fr_tr fr_rf f6 (by decide)) f23 (by decide))) ((frp_rf : frp p p [2504]) 8 (by decide)) hY41 (by decide) (by decide)) (by omega), (fun h => by obtain ⟨o1, o2, o3, o4, o5, o6, o7⟩ := h; omega)⟩)
  show tt Zi d 80 (43, [some (.inr (.inl 17)), some (.inr (.inl 25)), some (.inl r4), some (.inl (r17 - 1)), some (.inl r21), none, none, none, none], [], n, D, s20, p, c) _
  replace k40 : r34 = 1 := k40
  refine tt_k 2 (S' := (47, [some (.inr (.inl 17)), some (.inr (.inl 25)), some (.inl r4), some (.inl (r17 - 1)), some (.inl r21), none, none, none, none], [.inr (.inl 20)], n, D, s20, p, c)) rfl ?_
  refine tt_cl (by omega) rfl (e_readTwo (Zi := Zi) (q := q) (n := n) (D := D) (s := s20) (p := p) (c := c) (by omega) hz (by omega) hD hS20 hC hW22 A hx33) ?_
  rintro _ H1 (⟨s43, r44, rfl, rfl, hS43, hW45, f46, b47, k48, k49, k50⟩ | ⟨rfl, hY51, hn52⟩)
  rotate_left
  · exact tt_ax rfl (Or.inr ⟨rfl, cXp_mono (cXp_tr (fk_rf hD) (show fr s s20 [800, 801, 802, 803, 804, 805, 806, 807, 808, 809, 902, 1705, 1706, 2001, 2002, 2003, 2004, 2005, 2006, 2106, 2107, 2108, 2109, 2110, 2111, 2112, 2113, 2114, 2115, 2116, 2500, 2501, 2502, 2503] from (fr_tr (fr_tr fr_rf f6 (by decide)) f23 (by decide))) ((frp_rf : frp p p [2504]) 8 (by decide)) hY51 (by decide) (by decide)) (by omega), (fun h => by have h2 := rdTwo_gn (a := s 2001 + 3) (by rw [show s 2001 + 3 = s20 2001 by omega]; exact hn52); obtain ⟨o1, o2, o3, o4, o5, o6, o7⟩ := h; omega)⟩)
  show tt Zi d 80 (50, [some (.inr (.inl 17)), some (.inr (.inl 25)), some (.inl r4), some (.inl (r17 - 1)), some (.inl r21), none, none, none, none], [.inl r44], n, D, s43, p, c) _
  replace k48 : rdTwo A ((s20 2001)) = some r44 := k48
  replace k49 : (s43 2001) = (s20 2001) + 2 := k49
  replace k50 : (s43 2001) ≤ (s20 601) := k50
  have b53 : 0 ≤ (s43 2001) ∧ (s43 2001) ≤ 100000 := hS43 2001
  have e54 : s43 601 = (s20 601) := (f46 601 (by decide))
  have b55 : 0 ≤ (s43 601) ∧ (s43 601) ≤ 32768 := hS43 601
  have hx56 : tpl A (s43 601) (c (p 600)) := by rw [f46 601 (by decide)]; exact hx33
  have hg3 : s 2001 + 3 + 1 < A.2 ∧ qH A (s 2001) = r44 := rdTwo_g (by rw [show s 2001 + 3 = s20 2001 by omega]; exact k48)
  refine tt_k 3 (S' := (55, [some (.inr (.inl 17)), some (.inr (.inl 25)), some (.inl r4), some (.inl (r17 - 1)), some (.inl r21), some (.inl r44), none, none, none], [.inl r44, .inr (.inl 17)], n, D, s43, p, c)) rfl ?_
  refine tt_cl (by omega) rfl (g_isSide (Zi := Zi) (q := q) (n := n) (D := D) (s := s43) (p := p) (c := c) (by omega) hz (by omega) hD hS43 hC hW45 r44 (by omega)) ?_
  rintro _ _ ⟨r57, rfl, rfl, b58, k59⟩
  show tt Zi d 80 (58, [some (.inr (.inl 17)), some (.inr (.inl 25)), some (.inl r4), some (.inl (r17 - 1)), some (.inl r21), some (.inl r44), none, none, none], [.inl r57, .inr (.inl 17)], n, D, s43, p, c) _
  replace k59 : r57 = 1 ↔ (1 ≤ r44 ∧ r44 ≤ 64) := k59
  refine tt_k 2 (S' := (62, [some (.inr (.inl 17)), some (.inr (.inl 25)), some (.inl r4), some (.inl (r17 - 1)), some (.inl r21), some (.inl r44), none, none, none], [.inr (.inl 20), .inl r57, .inr (.inl 17)], n, D, s43, p, c)) rfl ?_
  refine tt_cl (by omega) rfl (g_openPlace (Zi := Zi) (q := q) (n := n) (D := D) (s := s43) (p := p) (c := c) (by omega) hz (by omega) hD hS43 hC hW45 ) ?_
  rintro _ _ ⟨r60, rfl, rfl, b61, k62⟩
  show tt Zi d 80 (65, [some (.inr (.inl 17)), some (.inr (.inl 25)), some (.inl r4), some (.inl (r17 - 1)), some (.inl r21), some (.inl r44), none, none, none], [.inl r60, .inl r57, .inr (.inl 17)], n, D, s43, p, c) _
  replace k62 : r60 = (s43 2001) - 1 := k62
  refine tt_k 2 (S' := (67, [some (.inr (.inl 17)), some (.inr (.inl 25)), some (.inl r4), some (.inl (r17 - 1)), some (.inl r21), some (.inl r44), none, none, none], [.inl (r60 - 1), .inl r57, .inr (.inl 17)], n, D, s43, p, c)) rfl ?_
  refine tt_cl (by omega) rfl (e_checkContent (Zi := Zi) (q := q) (n := n) (D := D) (s := s43) (p := p) (c := c) (by omega) hz (by omega) hD hS43 hC hW45 r57 (r60 - 1) (by omega) (by omega)) ?_
  rintro _ H1 (⟨rfl, rfl, k63⟩ | ⟨rfl, hY64, hn65⟩)
  rotate_left
  · exact tt_ax rfl (Or.inr ⟨rfl, cXp_mono (cXp_tr (fk_rf hD) (show fr s s43 [800, 801, 802, 803, 804, 805, 806, 807, 808, 809, 902, 1705, 1706, 2001, 2002, 2003, 2004, 2005, 2006, 2106, 2107, 2108, 2109, 2110, 2111, 2112, 2113, 2114, 2115, 2116, 2500, 2501, 2502, 2503] from (fr_tr (fr_tr (fr_tr fr_rf f6 (by decide)) f23 (by decide)) f46 (by decide))) ((frp_rf : frp p p [2504]) 8 (by decide)) hY64 (by decide) (by decide)) (by omega), (fun h => by obtain ⟨o1, o2, o3, o4, o5, o6, o7⟩ := h; omega)⟩)
  show tt Zi d 80 (70, [some (.inr (.inl 17)), some (.inr (.inl 25)), some (.inl r4), some (.inl (r17 - 1)), some (.inl r21), some (.inl r44), none, none, none], [], n, D, s43, p, c) _
  replace k63 : r57 = 1 := k63
  refine tt_k 2 (S' := (74, [some (.inr (.inl 17)), some (.inr (.inl 25)), some (.inl r4), some (.inl (r17 - 1)), some (.inl r21), some (.inl r44), none, none, none], [.inr (.inl 20)], n, D, s43, p, c)) rfl ?_
  refine tt_cl (by omega) rfl (e_readTwo (Zi := Zi) (q := q) (n := n) (D := D) (s := s43) (p := p) (c := c) (by omega) hz (by omega) hD hS43 hC hW45 A hx56) ?_
  rintro _ H1 (⟨s66, r67, rfl, rfl, hS66, hW68, f69, b70, k71, k72, k73⟩ | ⟨rfl, hY74, hn75⟩)
  rotate_left
  · exact tt_ax rfl (Or.inr ⟨rfl, cXp_mono (cXp_tr (fk_rf hD) (show fr s s43 [800, 801, 802, 803, 804, 805, 806, 807, 808, 809, 902, 1705, 1706, 2001, 2002, 2003, 2004, 2005, 2006, 2106, 2107, 2108, 2109, 2110, 2111, 2112, 2113, 2114, 2115, 2116, 2500, 2501, 2502, 2503] from (fr_tr (fr_tr (fr_tr fr_rf f6 (by decide)) f23 (by decide)) f46 (by decide))) ((frp_rf : frp p p [2504]) 8 (by decide)) hY74 (by decide) (by decide)) (by omega), (fun h => by have h2 := rdTwo_gn (a := s 2001 + 5) (by rw [show s 2001 + 5 = s43 2001 by omega]; exact hn75); obtain ⟨o1, o2, o3, o4, o5, o6, o7⟩ := h; omega)⟩)
  show tt Zi d 80 (77, [some (.inr (.inl 17)), some (.inr (.inl 25)), some (.inl r4), some (.inl (r17 - 1)), some (.inl r21), some (.inl r44), none, none, none], [.inl r67], n, D, s66, p, c) _
  replace k71 : rdTwo A ((s43 2001)) = some r67 := k71
  replace k72 : (s66 2001) = (s43 2001) + 2 := k72
  replace k73 : (s66 2001) ≤ (s43 601) := k73
  have b76 : 0 ≤ (s66 2001) ∧ (s66 2001) ≤ 100000 := hS66 2001
  have e77 : s66 601 = (s43 601) := (f69 601 (by decide))
  have b78 : 0 ≤ (s66 601) ∧ (s66 601) ≤ 32768 := hS66 601
  have hx79 : tpl A (s66 601) (c (p 600)) := by rw [f69 601 (by decide)]; exact hx56
  have hg5 : s 2001 + 5 + 1 < A.2 ∧ qW A (s 2001) = r67 := rdTwo_g (by rw [show s 2001 + 5 = s43 2001 by omega]; exact k71)
  refine tt_k 3 (S' := (82, [some (.inr (.inl 17)), some (.inr (.inl 25)), some (.inl r4), some (.inl (r17 - 1)), some (.inl r21), some (.inl r44), some (.inl r67), none, none], [.inl r67, .inr (.inl 17)], n, D, s66, p, c)) rfl ?_
  refine tt_cl (by omega) rfl (g_isSide (Zi := Zi) (q := q) (n := n) (D := D) (s := s66) (p := p) (c := c) (by omega) hz (by omega) hD hS66 hC hW68 r67 (by omega)) ?_
  rintro _ _ ⟨r80, rfl, rfl, b81, k82⟩
  show tt Zi d 80 (85, [some (.inr (.inl 17)), some (.inr (.inl 25)), some (.inl r4), some (.inl (r17 - 1)), some (.inl r21), some (.inl r44), some (.inl r67), none, none], [.inl r80, .inr (.inl 17)], n, D, s66, p, c) _
  replace k82 : r80 = 1 ↔ (1 ≤ r67 ∧ r67 ≤ 64) := k82
  refine tt_k 2 (S' := (89, [some (.inr (.inl 17)), some (.inr (.inl 25)), some (.inl r4), some (.inl (r17 - 1)), some (.inl r21), some (.inl r44), some (.inl r67), none, none], [.inr (.inl 20), .inl r80, .inr (.inl 17)], n, D, s66, p, c)) rfl ?_
  refine tt_cl (by omega) rfl (g_openPlace (Zi := Zi) (q := q) (n := n) (D := D) (s := s66) (p := p) (c := c) (by omega) hz (by omega) hD hS66 hC hW68 ) ?_
  rintro _ _ ⟨r83, rfl, rfl, b84, k85⟩
  show tt Zi d 80 (92, [some (.inr (.inl 17)), some (.inr (.inl 25)), some (.inl r4), some (.inl (r17 - 1)), some (.inl r21), some (.inl r44), some (.inl r67), none, none], [.inl r83, .inl r80, .inr (.inl 17)], n, D, s66, p, c) _
  replace k85 : r83 = (s66 2001) - 1 := k85
  refine tt_k 2 (S' := (94, [some (.inr (.inl 17)), some (.inr (.inl 25)), some (.inl r4), some (.inl (r17 - 1)), some (.inl r21), some (.inl r44), some (.inl r67), none, none], [.inl (r83 - 1), .inl r80, .inr (.inl 17)], n, D, s66, p, c)) rfl ?_
  refine tt_cl (by omega) rfl (e_checkContent (Zi := Zi) (q := q) (n := n) (D := D) (s := s66) (p := p) (c := c) (by omega) hz (by omega) hD hS66 hC hW68 r80 (r83 - 1) (by omega) (by omega)) ?_
  rintro _ H1 (⟨rfl, rfl, k86⟩ | ⟨rfl, hY87, hn88⟩)
  rotate_left
  · exact tt_ax rfl (Or.inr ⟨rfl, cXp_mono (cXp_tr (fk_rf hD) (show fr s s66 [800, 801, 802, 803, 804, 805, 806, 807, 808, 809, 902, 1705, 1706, 2001, 2002, 2003, 2004, 2005, 2006, 2106, 2107, 2108, 2109, 2110, 2111, 2112, 2113, 2114, 2115, 2116, 2500, 2501, 2502, 2503] from (fr_tr (fr_tr (fr_tr (fr_tr fr_rf f6 (by decide)) f23 (by decide)) f46 (by decide)) f69 (by decide))) ((frp_rf : frp p p [2504]) 8 (by decide)) hY87 (by decide) (by decide)) (by omega), (fun h => by obtain ⟨o1, o2, o3, o4, o5, o6, o7⟩ := h; omega)⟩)
  show tt Zi d 80 (97, [some (.inr (.inl 17)), some (.inr (.inl 25)), some (.inl r4), some (.inl (r17 - 1)), some (.inl r21), some (.inl r44), some (.inl r67), none, none], [], n, D, s66, p, c) _
  replace k86 : r80 = 1 := k86
  refine tt_k 2 (S' := (101, [some (.inr (.inl 17)), some (.inr (.inl 25)), some (.inl r4), some (.inl (r17 - 1)), some (.inl r21), some (.inl r44), some (.inl r67), none, none], [.inr (.inl 20)], n, D, s66, p, c)) rfl ?_
  refine tt_cl (by omega) rfl (e_readByte (Zi := Zi) (q := q) (n := n) (D := D) (s := s66) (p := p) (c := c) (by omega) hz (by omega) hD hS66 hC hW68 A hx79) ?_
  rintro _ H1 (⟨s89, r90, rfl, rfl, hS89, hW91, f92, b93, k94, k95, k96⟩ | ⟨rfl, hY97, hn98⟩)
  rotate_left
  · exact tt_ax rfl (Or.inr ⟨rfl, cXp_mono (cXp_tr (fk_rf hD) (show fr s s66 [800, 801, 802, 803, 804, 805, 806, 807, 808, 809, 902, 1705, 1706, 2001, 2002, 2003, 2004, 2005, 2006, 2106, 2107, 2108, 2109, 2110, 2111, 2112, 2113, 2114, 2115, 2116, 2500, 2501, 2502, 2503] from (fr_tr (fr_tr (fr_tr (fr_tr fr_rf f6 (by decide)) f23 (by decide)) f46 (by decide)) f69 (by decide))) ((frp_rf : frp p p [2504]) 8 (by decide)) hY97 (by decide) (by decide)) (by omega), (fun h => by have h2 := rdB_gn (a := s 2001 + 7) (by rw [show s 2001 + 7 = s66 2001 by omega]; exact hn98); obtain ⟨o1, o2, o3, o4, o5, o6, o7⟩ := h; omega)⟩)
  show tt Zi d 80 (104, [some (.inr (.inl 17)), some (.inr (.inl 25)), some (.inl r4), some (.inl (r17 - 1)), some (.inl r21), some (.inl r44), some (.inl r67), none, none], [.inl r90], n, D, s89, p, c) _
  replace k94 : rdB A ((s66 2001)) = some r90 := k94
  replace k95 : (s89 2001) = (s66 2001) + 1 := k95
  replace k96 : (s89 2001) ≤ (s66 601) := k96
  have b99 : 0 ≤ (s89 2001) ∧ (s89 2001) ≤ 100000 := hS89 2001
  have e100 : s89 601 = (s66 601) := (f92 601 (by decide))
  have b101 : 0 ≤ (s89 601) ∧ (s89 601) ≤ 32768 := hS89 601
  have hx102 : tpl A (s89 601) (c (p 600)) := by rw [f92 601 (by decide)]; exact hx79
  have hg7 : s 2001 + 7 < A.2 ∧ qP A (s 2001) = r90 := rdB_g (by rw [show s 2001 + 7 = s66 2001 by omega]; exact k94)
  refine tt_k 3 (S' := (109, [some (.inr (.inl 17)), some (.inr (.inl 25)), some (.inl r4), some (.inl (r17 - 1)), some (.inl r21), some (.inl r44), some (.inl r67), some (.inl r90), none], [.inl r90, .inr (.inl 17)], n, D, s89, p, c)) rfl ?_
  refine tt_cl (by omega) rfl (g_isPC (Zi := Zi) (q := q) (n := n) (D := D) (s := s89) (p := p) (c := c) (by omega) hz (by omega) hD hS89 hC hW91 r90 (by omega)) ?_
  rintro _ _ ⟨r103, rfl, rfl, b104, k105⟩
  show tt Zi d 80 (112, [some (.inr (.inl 17)), some (.inr (.inl 25)), some (.inl r4), some (.inl (r17 - 1)), some (.inl r21), some (.inl r44), some (.inl r67), some (.inl r90), none], [.inl r103, .inr (.inl 17)], n, D, s89, p, c) _
  replace k105 : r103 = 1 ↔ (r90 = 1 ∨ r90 = 3) := k105
  refine tt_k 2 (S' := (116, [some (.inr (.inl 17)), some (.inr (.inl 25)), some (.inl r4), some (.inl (r17 - 1)), some (.inl r21), some (.inl r44), some (.inl r67), some (.inl r90), none], [.inr (.inl 20), .inl r103, .inr (.inl 17)], n, D, s89, p, c)) rfl ?_
  refine tt_cl (by omega) rfl (g_openPlace (Zi := Zi) (q := q) (n := n) (D := D) (s := s89) (p := p) (c := c) (by omega) hz (by omega) hD hS89 hC hW91 ) ?_
  rintro _ _ ⟨r106, rfl, rfl, b107, k108⟩
  show tt Zi d 80 (119, [some (.inr (.inl 17)), some (.inr (.inl 25)), some (.inl r4), some (.inl (r17 - 1)), some (.inl r21), some (.inl r44), some (.inl r67), some (.inl r90), none], [.inl r106, .inl r103, .inr (.inl 17)], n, D, s89, p, c) _
  replace k108 : r106 = (s89 2001) - 1 := k108
  refine tt_cl (by omega) rfl (e_checkContent (Zi := Zi) (q := q) (n := n) (D := D) (s := s89) (p := p) (c := c) (by omega) hz (by omega) hD hS89 hC hW91 r103 r106 (by omega) (by omega)) ?_
  rintro _ H1 (⟨rfl, rfl, k109⟩ | ⟨rfl, hY110, hn111⟩)
  rotate_left
  · exact tt_ax rfl (Or.inr ⟨rfl, cXp_mono (cXp_tr (fk_rf hD) (show fr s s89 [800, 801, 802, 803, 804, 805, 806, 807, 808, 809, 902, 1705, 1706, 2001, 2002, 2003, 2004, 2005, 2006, 2106, 2107, 2108, 2109, 2110, 2111, 2112, 2113, 2114, 2115, 2116, 2500, 2501, 2502, 2503] from (fr_tr (fr_tr (fr_tr (fr_tr (fr_tr fr_rf f6 (by decide)) f23 (by decide)) f46 (by decide)) f69 (by decide)) f92 (by decide))) ((frp_rf : frp p p [2504]) 8 (by decide)) hY110 (by decide) (by decide)) (by omega), (fun h => by obtain ⟨o1, o2, o3, o4, o5, o6, o7⟩ := h; omega)⟩)
  show tt Zi d 80 (122, [some (.inr (.inl 17)), some (.inr (.inl 25)), some (.inl r4), some (.inl (r17 - 1)), some (.inl r21), some (.inl r44), some (.inl r67), some (.inl r90), none], [], n, D, s89, p, c) _
  replace k109 : r103 = 1 := k109
  refine tt_k 3 (S' := (126, [some (.inr (.inl 17)), some (.inr (.inl 25)), some (.inl r4), some (.inl (r17 - 1)), some (.inl r21), some (.inl r44), some (.inl r67), some (.inl r90), none], [.inl r90, .inl r4, .inr (.inl 17)], n, D, s89, p, c)) rfl ?_
  refine tt_cl (by omega) rfl (g_frameLength (Zi := Zi) (q := q) (n := n) (D := D) (s := s89) (p := p) (c := c) (by omega) hz (by omega) hD hS89 hC hW91 r90 (by omega)) ?_
  rintro _ _ ⟨r112, rfl, rfl, b113, k114⟩
  show tt Zi d 80 (129, [some (.inr (.inl 17)), some (.inr (.inl 25)), some (.inl r4), some (.inl (r17 - 1)), some (.inl r21), some (.inl r44), some (.inl r67), some (.inl r90), none], [.inl r112, .inl r4, .inr (.inl 17)], n, D, s89, p, c) _
  replace k114 : r112 = 8 + 3 * r90 := k114
  have K116 : ∀ (j115 : Int) , (0 ≤ j115 ∧ j115 ≤ 1) → (j115 = 1 ↔ r4 = 8 + 3 * r90) → (True) → tt Zi d 80 (137, [some (.inr (.inl 17)), some (.inr (.inl 25)), some (.inl r4), some (.inl (r17 - 1)), some (.inl r21), some (.inl r44), some (.inl r67), some (.inl r90), none], [.inl j115, .inr (.inl 17)], n, D, s89, p, c) (fun R H => (∃ (n' : Nat) (D' : Nat → Nat × Nat) (s' : Nat → Int) (p' : Nat → Nat) (c' : Nat → Nat → Int), R = .inl none ∧ H = (n', D', s', p', c') ∧ bS s' ∧ bC D' c' ∧ wp q g n' D' p' s' ∧ fr s s' [1705, 1706, 2001, 2500, 2501, 2502, 2503] ∧ frp p p' [2504] ∧ ext n D n' D' ∧ fk p c n' p' c' [19, 2504] ∧ (okF A (s 2001)) ∧ (s' 2001 = s 2001 + 8 + 3 * qP A (s 2001)) ∧ (s' 2001 ≤ s 601) ∧ ((s' 2500 = qW A (s 2001) ∧ s' 2501 = qH A (s 2001)) ∧ (s' 2502 = qP A (s 2001) ∧ s' 2503 = qD A (s 2001))) ∧ (s' 1705 = 1 ∧ s' 1706 = qP A (s 2001)) ∧ (∀ j : Int, 0 ≤ j → j < qP A (s 2001) → c' 19 j.toNat = qN A (s 2001) j)) ∨ (R = .inr 12 ∧ cXp ((q + 1)) g s p c [19, 2504] [800, 801, 802, 803, 804, 805, 806, 807, 808, 809, 902, 1705, 1706, 2001, 2002, 2003, 2004, 2005, 2006, 2106, 2107, 2108, 2109, 2110, 2111, 2112, 2113, 2114, 2115, 2116, 2500, 2501, 2502, 2503] H ∧ (¬ okF A (s 2001)))) := by
    intro j115 b118 b119 hj117
    refine tt_k 1 (S' := (138, [some (.inr (.inl 17)), some (.inr (.inl 25)), some (.inl r4), some (.inl (r17 - 1)), some (.inl r21), some (.inl r44), some (.inl r67), some (.inl r90), none], [.inl (r17 - 1), .inl j115, .inr (.inl 17)], n, D, s89, p, c)) rfl ?_
    refine tt_cl (by omega) rfl (e_checkLength (Zi := Zi) (q := q) (n := n) (D := D) (s := s89) (p := p) (c := c) (by omega) hz (by omega) hD hS89 hC hW91 j115 (r17 - 1) (by omega) (by omega)) ?_
    rintro _ H1 (⟨rfl, rfl, k120⟩ | ⟨rfl, hY121, hn122⟩)
    rotate_left
    · exact tt_ax rfl (Or.inr ⟨rfl, cXp_mono (cXp_tr (fk_rf hD) (show fr s s89 [800, 801, 802, 803, 804, 805, 806, 807, 808, 809, 902, 1705, 1706, 2001, 2002, 2003, 2004, 2005, 2006, 2106, 2107, 2108, 2109, 2110, 2111, 2112, 2113, 2114, 2115, 2116, 2500, 2501, 2502, 2503] from (fr_tr (fr_tr (fr_tr (fr_tr (fr_tr fr_rf f6 (by decide)) f23 (by decide)) f46 (by decide)) f69 (by decide)) f92 (by decide))) ((frp_rf : frp p p [2504]) 8 (by decide)) hY121 (by decide) (by decide)) (by omega), (fun h => by obtain ⟨o1, o2, o3, o4, o5, o6, o7⟩ := h; omega)⟩)
    show tt Zi d 80 (141, [some (.inr (.inl 17)), some (.inr (.inl 25)), some (.inl r4), some (.inl (r17 - 1)), some (.inl r21), some (.inl r44), some (.inl r67), some (.inl r90), none], [], n, D, s89, p, c) _
    replace k120 : j115 = 1 := k120
    refine tt_k 2 (S' := (144, [some (.inr (.inl 17)), some (.inr (.inl 25)), some (.inl r4), some (.inl (r17 - 1)), some (.inl r21), some (.inl r44), some (.inl r67), some (.inl r90), some (.inl 0)], [], n, D, s89, p, c)) rfl ?_
    refine e_readFrame25_L144 (Zi := Zi) (q := q) (n := n) (D := D) (s := s89) (p := p) (c := c) hd hz (by omega) hD hS89 hC hW91 A (s 2001) r4 (r17 - 1) r21 r44 r67 r90 (by omega) (by omega) (by omega) (by omega) (by omega) (by omega) hx102 (fun H h hq9 => (Or.inr ⟨rfl, cXp_mono (cXp_tr (fk_rf hD) (show fr s s89 [800, 801, 802, 803, 804, 805, 806, 807, 808, 809, 902, 1705, 1706, 2001, 2002, 2003, 2004, 2005, 2006, 2106, 2107, 2108, 2109, 2110, 2111, 2112, 2113, 2114, 2115, 2116, 2500, 2501, 2502, 2503] from (fr_tr (fr_tr (fr_tr (fr_tr (fr_tr fr_rf f6 (by decide)) f23 (by decide)) f46 (by decide)) f69 (by decide)) f92 (by decide))) ((frp_rf : frp p p [2504]) 8 (by decide)) h (by decide) (by decide)) (by omega), (fun h => by obtain ⟨o1, o2, o3, o4, o5, o6, o7⟩ := h; exact (hq9).elim (fun h3 => h3 (by rw [← hg7.2]; exact o7)) (fun h3 => by omega))⟩)) ?_ _ 0 s89 c (by omega) hS89 fr_rf hC hW91 (fk_rf hD) (show 0 ≤ r90 by omega) nmO_0 (show (s89 2001) = (s 2001) + 8 + 3 * 0 ∧ (s89 2001) ≤ (s89 601) by omega) (fun j h1 h2 => absurd h2 (by omega)) (Nat.lt_succ_self _)
    intro x123 s124 c125 b126 hS124 f127 hC125 hW128 kf129 i130 i131 i132 i133 hx134
    show tt Zi d 80 (180, [some (.inr (.inl 17)), some (.inr (.inl 25)), some (.inl r4), some (.inl (r17 - 1)), some (.inl r21), some (.inl r44), some (.inl r67), some (.inl r90), some (.inl x123)], [], n, D, s124, p, c125) _
    have FK135 : fk p c n p c125 [19, 2504] := fk_tr (fk_rf hD) kf129 (by decide)
    replace i130 : x123 ≤ r90 := i130
    replace i131 : nmO A (s 2001) x123 := i131
    replace i132 : (s124 2001) = (s 2001) + 8 + 3 * x123 ∧ (s124 2001) ≤ (s89 601) := i132
    have b136 : 0 ≤ (s124 2001) ∧ (s124 2001) ≤ 100000 := hS124 2001
    replace hx134 : r90 ≤ x123 := hx134
    have e137 : s124 601 = (s89 601) := (f127 601 (by decide))
    have b138 : 0 ≤ (s124 601) ∧ (s124 601) ≤ 32768 := hS124 601
    have hx139 : tpl A (s124 601) (c125 (p 600)) := by rw [f127 601 (by decide), fk_k (k := 600) kf129 (by decide)]; exact hx102
    refine tt_k 5 (S' := (189, [some (.inr (.inl 17)), some (.inr (.inl 25)), some (.inl r4), some (.inl (r17 - 1)), some (.inl r21), some (.inl r44), some (.inl r67), some (.inl r90), some (.inl x123)], [.inl r21, .inl r90, .inl r44, .inl r67, .inr (.inl 25)], n, D, s124, p, c125)) rfl ?_
    refine tt_cl (by omega) rfl (g_reshape25 (Zi := Zi) (q := q) (n := n) (D := D) (s := s124) (p := p) (c := c125) (by omega) hz (by omega) FK135.1 hS124 hC125 hW128 r67 r44 r90 r21 (by omega) (by omega) (by omega) (by omega)) ?_
    rintro _ _ ⟨n140, D141, s142, p143, c144, rfl, rfl, hS142, hC144, hW145, f146, g147, xe148, kf149, k150, k151, k152, k153, k154⟩
    have FK155 : fk p c n140 p143 c144 [19, 2504] := fk_tr FK135 kf149 (by decide)
    show tt Zi d 80 (192, [some (.inr (.inl 17)), some (.inr (.inl 25)), some (.inl r4), some (.inl (r17 - 1)), some (.inl r21), some (.inl r44), some (.inl r67), some (.inl r90), some (.inl x123)], [], n140, D141, s142, p143, c144) _
    replace k150 : (s142 2500) = r67 := k150
    replace k151 : (s142 2501) = r44 := k151
    replace k152 : (s142 2502) = r90 := k152
    replace k153 : (s142 2503) = r21 := k153
    have b156 : 0 ≤ (s142 2500) ∧ (s142 2500) ≤ 64 := hS142 2500
    have b157 : 0 ≤ (s142 2501) ∧ (s142 2501) ≤ 64 := hS142 2501
    have b158 : 0 ≤ (s142 2502) ∧ (s142 2502) ≤ 3 := hS142 2502
    have b159 : 0 ≤ (s142 2503) ∧ (s142 2503) ≤ 16 := hS142 2503
    have e160 : s142 601 = (s124 601) := (f146 601 (by decide))
    have b161 : 0 ≤ (s142 601) ∧ (s142 601) ≤ 32768 := hS142 601
    have e162 : s142 2001 = (s124 2001) := (f146 2001 (by decide))
    have b163 : 0 ≤ (s142 2001) ∧ (s142 2001) ≤ 100000 := hS142 2001
    have hx164 : tpl A (s142 601) (c144 (p143 600)) := by rw [f146 601 (by decide), fk_k (k := 600) kf149 (by decide)]; exact hx139
    refine tt_k 6 (S' := (203, [some (.inr (.inl 17)), some (.inr (.inl 25)), some (.inl r4), some (.inl (r17 - 1)), some (.inl r21), some (.inl r44), some (.inl r67), some (.inl r90), some (.inl x123)], [], n140, D141, (us (us s142 1705 1) 1706 r90), p143, c144)) rfl ?_
    have hpn : x123 = qP A (s 2001) := by omega
    have hnm := i131
    have hnk := i133
    rw [hpn] at hnm hnk
    exact tt_rtv rfl rfl (Or.inl ⟨n140, D141, (us (us s142 1705 1) 1706 r90), p143, c144, rfl, rfl, (bS_us (bS_us hS142 (show 0 ≤ 1 ∧ 1 ≤ 1 by omega)) (show 0 ≤ r90 ∧ r90 ≤ 3 by omega)), hC144, (wp_us (by decide) (wp_us (by decide) hW145)), (fr_us (by decide) (fr_us (by decide) (fr_tr (fr_tr (fr_tr (fr_tr (fr_tr (fr_tr (fr_tr fr_rf f6 (by decide)) f23 (by decide)) f46 (by decide)) f69 (by decide)) f92 (by decide)) f127 (by decide)) f146 (by decide)))), (frp_tr frp_rf g147 (by decide)), (ext_tr ext_rf xe148), FK155, ⟨by omega, by omega, by omega, by omega, by omega, by omega, hnm⟩, by show (s142 2001) = s 2001 + 8 + 3 * qP A (s 2001); omega, by show (s142 2001) ≤ s 601; omega, by show ((s142 2500) = qW A (s 2001) ∧ (s142 2501) = qH A (s 2001)) ∧ ((s142 2502) = qP A (s 2001) ∧ (s142 2503) = qD A (s 2001)); omega, by show 1 = 1 ∧ r90 = qP A (s 2001); omega, fun j h1 h2 => by rw [fk_c (k := 19) kf149 (by decide)]; exact hnk j h1 h2⟩)
  refine tb_ne (x := r4) (y := r112) rfl rfl (by omega) (fun h165 => ?_) (fun h165 => ?_)
  · show tt Zi d 80 (136, [some (.inr (.inl 17)), some (.inr (.inl 25)), some (.inl r4), some (.inl (r17 - 1)), some (.inl r21), some (.inl r44), some (.inl r67), some (.inl r90), none], [.inr (.inl 17)], n, D, s89, p, c) _
    refine tt_k 1 (S' := (137, [some (.inr (.inl 17)), some (.inr (.inl 25)), some (.inl r4), some (.inl (r17 - 1)), some (.inl r21), some (.inl r44), some (.inl r67), some (.inl r90), none], [.inl 0, .inr (.inl 17)], n, D, s89, p, c)) rfl ?_
    exact K116 0  (by omega) (by omega) (trivial)
  · show tt Zi d 80 (132, [some (.inr (.inl 17)), some (.inr (.inl 25)), some (.inl r4), some (.inl (r17 - 1)), some (.inl r21), some (.inl r44), some (.inl r67), some (.inl r90), none], [.inr (.inl 17)], n, D, s89, p, c) _
    refine tt_k 2 (S' := (137, [some (.inr (.inl 17)), some (.inr (.inl 25)), some (.inl r4), some (.inl (r17 - 1)), some (.inl r21), some (.inl r44), some (.inl r67), some (.inl r90), none], [.inl 1, .inr (.inl 17)], n, D, s89, p, c)) rfl ?_
    exact K116 1  (by omega) (by omega) (trivial)
set_option maxRecDepth 100000 in
set_option maxHeartbeats 4000000 in
theorem e_readFrame27_L144 {g : Nat → Int} {Zi : Nat → Option (Nat × (Nat → Int))} {d n q : Nat} {D : Nat → Nat × Nat} {s : Nat → Int} {p : Nat → Nat} {c : Nat → Nat → Int}  {Q : mi_Rs → mi_H → Prop} (hd : 6 ≤ d) (hz : zk Zi) (hq : q + 12 ≤ 400001) (hD : wd n p) (hS : bS s) (hC : bC D c) (hW : wp q g n D p s) (A : TN) (aa : Int) (ln_ : Int) (lp_ : Int) (dp_ : Int) (hg : Int) (wd : Int) (pl_ : Int) (b_ln_ : -2147483648 ≤ ln_ ∧ ln_ ≤ 2147483647) (b_lp_ : -2147483648 ≤ lp_ ∧ lp_ ≤ 2147483647) (b_dp_ : -2147483648 ≤ dp_ ∧ dp_ ≤ 2147483647) (b_hg : -2147483648 ≤ hg ∧ hg ≤ 2147483647) (b_wd : -2147483648 ≤ wd ∧ wd ≤ 2147483647) (b_pl_ : 0 ≤ pl_ ∧ pl_ ≤ 3) (hq0 : tpl A (s 601) (c (p 600))) (hX12 : ∀ H, cXp (q + 1) g s p c [19] [800, 801, 802, 803, 804, 805, 806, 807, 808, 809, 902, 1705, 1706, 2001, 2002, 2003, 2004, 2005, 2006, 2106, 2107, 2108, 2109, 2110, 2111, 2112, 2113, 2114, 2115, 2116, 2700, 2701, 2702, 2703] H → (¬ nmO A aa pl_ ∨ A.2 < aa + 8 + 3 * pl_) → Q (.inr 12) H)
  (hK : ∀ (pn : Int) (s0 : Nat → Int) (c0 : Nat → Nat → Int) (b_pn : 0 ≤ pn ∧ pn ≤ 3) (hS0 : bS s0) (hF0 : fr s s0 [2001]) (hC0 : bC D c0) (hW0 : wp q g n D p s0) (hK0 : fk p c n p c0 [19]) (i0 : pn ≤ pl_) (i1 : nmO A aa pn) (i2 : s0 2001 = aa + 8 + 3 * pn ∧ s0 2001 ≤ s 601) (i3 : ∀ j : Int, 0 ≤ j → j < pn → c0 19 j.toNat = qN A aa j), (pl_ ≤ pn) → tt Zi d 80 (180, [some (.inr (.inl 17)), some (.inr (.inl 27)), some (.inl ln_), some (.inl lp_), some (.inl dp_), some (.inl hg), some (.inl wd), some (.inl pl_), some (.inl pn)], [], n, D, s0, p, c0) Q) :
  ∀ (m : Nat) (pn : Int) (s0 : Nat → Int) (c0 : Nat → Nat → Int) (b_pn : 0 ≤ pn ∧ pn ≤ 3) (hS0 : bS s0) (hF0 : fr s s0 [2001]) (hC0 : bC D c0) (hW0 : wp q g n D p s0) (hK0 : fk p c n p c0 [19]) (i0 : pn ≤ pl_) (i1 : nmO A aa pn) (i2 : s0 2001 = aa + 8 + 3 * pn ∧ s0 2001 ≤ s 601) (i3 : ∀ j : Int, 0 ≤ j → j < pn → c0 19 j.toNat = qN A aa j), (pl_ - pn).toNat < m → tt Zi d 80 (144, [some (.inr (.inl 17)), some (.inr (.inl 27)), some (.inl ln_), some (.inl lp_), some (.inl dp_), some (.inl hg), some (.inl wd), some (.inl pl_), some (.inl pn)], [], n, D, s0, p, c0) Q := by
  intro m
  induction m with
  | zero => intro pn s0 c0 b_pn hS0 hF0 hC0 hW0 hK0 i0 i1 i2 i3 hm; exact absurd hm (by omega)
  | succ m ih =>
    intro pn s0 c0 b_pn hS0 hF0 hC0 hW0 hK0 i0 i1 i2 i3 hm
    have e1 : s0 601 = s 601 := hF0 601 (by decide)
    have b2 : 0 ≤ (s0 601) ∧ (s0 601) ≤ 32768 := hS0 601
    have b3 : 0 ≤ (s 601) ∧ (s 601) ≤ 32768 := hS 601
    have htp : tpl A (s0 601) (c0 (p 600)) := by rw [hF0 601 (by decide), fk_k (k := 600) hK0 (by decide)]; exact hq0
    have hA := hq0.1
    refine tt_k 2 (S' := (148, [some (.inr (.inl 17)), some (.inr (.inl 27)), some (.inl ln_), some (.inl lp_), some (.inl dp_), some (.inl hg), some (.inl wd), some (.inl pl_), some (.inl pn)], [.inl pl_, .inl pn], n, D, s0, p, c0)) rfl ?_
    refine tb_ge (x := pn) (y := pl_) rfl rfl (by omega) (fun h4 => ?_) (fun h4 => ?_)
    · show tt Zi d 80 (180, [some (.inr (.inl 17)), some (.inr (.inl 27)), some (.inl ln_), some (.inl lp_), some (.inl dp_), some (.inl hg), some (.inl wd), some (.inl pl_), some (.inl pn)], [], n, D, s0, p, c0) _
      exact hK pn s0 c0 (by omega) hS0 hF0 hC0 hW0 hK0 i0 i1 i2 i3 (by omega)
    · show tt Zi d 80 (151, [some (.inr (.inl 17)), some (.inr (.inl 27)), some (.inl ln_), some (.inl lp_), some (.inl dp_), some (.inl hg), some (.inl wd), some (.inl pl_), some (.inl pn)], [], n, D, s0, p, c0) _
      refine tt_k 2 (S' := (154, [some (.inr (.inl 17)), some (.inr (.inl 27)), some (.inl ln_), some (.inl lp_), some (.inl dp_), some (.inl hg), some (.inl wd), some (.inl pl_), some (.inl pn)], [.inl pn, .inr (.inl 17)], n, D, s0, p, c0)) rfl ?_
      refine tt_cl (by omega) rfl (e_readName (Zi := Zi) (q := q) (n := n) (D := D) (s := s0) (p := p) (c := c0) (by omega) hz (by omega) hK0.1 hS0 hC0 hW0 A pn (by omega) htp) ?_
      rintro _ H1 (⟨s5, c6, rfl, rfl, hS5, hC6, hW7, f8, kf9, k10, k11, k12, k13, k14⟩ | ⟨rfl, hY15, hn16⟩)
      rotate_left
      · exact tt_ax rfl (hX12 _ (cXp_mono (cXp_tr hK0 (fr_wk (show fr s s0 [2001] from hF0) (by decide)) ((frp_rf : frp p p []) 8 (by decide)) hY15 (by decide) (by decide)) (by omega)) (by exact (hn16).elim (fun h3 => Or.inr (by omega)) (fun ⟨j, hj, h3⟩ => Or.inl (fun h4 => h4.2 j pn hj.1 hj.2 (by omega) (by rw [← i3 j hj.1 hj.2, h3]; unfold qN; rw [show aa + 8 + 3 * pn = s0 2001 by omega])))))
      have FK17 : fk p c n p c6 [19] := fk_tr hK0 kf9 (by decide)
      show tt Zi d 80 (157, [some (.inr (.inl 17)), some (.inr (.inl 27)), some (.inl ln_), some (.inl lp_), some (.inl dp_), some (.inl hg), some (.inl wd), some (.inl pl_), some (.inl pn)], [], n, D, s5, p, c6) _
      replace k10 : (s5 2001) = (s0 2001) + 1 := k10
      replace k11 : (s5 2001) ≤ (s0 601) := k11
      replace k14 : (s0 2001) < A.2 := k14
      have b18 : 0 ≤ (s0 2001) ∧ (s0 2001) ≤ 100000 := hS0 2001
      have b19 : 0 ≤ (s5 2001) ∧ (s5 2001) ≤ 100000 := hS5 2001
      have e20 : s5 601 = (s0 601) := (f8 601 (by decide))
      have b21 : 0 ≤ (s5 601) ∧ (s5 601) ≤ 32768 := hS5 601
      have hx22 : tpl A (s5 601) (c6 (p 600)) := by rw [f8 601 (by decide), fk_k (k := 600) kf9 (by decide)]; exact htp
      refine tt_k 3 (S' := (163, [some (.inr (.inl 17)), some (.inr (.inl 27)), some (.inl ln_), some (.inl lp_), some (.inl dp_), some (.inl hg), some (.inl wd), some (.inl pl_), some (.inl pn)], [.inl 17, .inr (.inl 20)], n, D, s5, p, c6)) rfl ?_
      refine tt_cl (by omega) rfl (e_expect (Zi := Zi) (q := q) (n := n) (D := D) (s := s5) (p := p) (c := c6) (by omega) hz (by omega) FK17.1 hS5 hC6 hW7 A 17 (by omega) hx22) ?_
      rintro _ H1 (⟨s23, rfl, rfl, hS23, hW24, f25, k26, k27, k28⟩ | ⟨rfl, hY29, hn30⟩)
      rotate_left
      · exact tt_ax rfl (hX12 _ (cXp_mono (cXp_tr FK17 (fr_wk (show fr s s5 [2001] from (fr_tr hF0 f8 (by decide))) (by decide)) ((frp_rf : frp p p []) 8 (by decide)) hY29 (by decide) (by decide)) (by omega)) (by have h2 := rdB_gx (a := aa + 9 + 3 * pn) (by rw [show aa + 9 + 3 * pn = s5 2001 by omega]; exact hn30); exact h2.elim (fun h3 => Or.inr (by omega)) (fun h3 => Or.inl (fun h4 => h3 (h4.1 pn (by omega) (by omega)).1))))
      show tt Zi d 80 (166, [some (.inr (.inl 17)), some (.inr (.inl 27)), some (.inl ln_), some (.inl lp_), some (.inl dp_), some (.inl hg), some (.inl wd), some (.inl pl_), some (.inl pn)], [], n, D, s23, p, c6) _
      replace k26 : rdB A ((s5 2001)) = some 17 := k26
      replace k27 : (s23 2001) = (s5 2001) + 1 := k27
      replace k28 : (s23 2001) ≤ (s5 601) := k28
      have b31 : 0 ≤ (s23 2001) ∧ (s23 2001) ≤ 100000 := hS23 2001
      have e32 : s23 601 = (s5 601) := (f25 601 (by decide))
      have b33 : 0 ≤ (s23 601) ∧ (s23 601) ≤ 32768 := hS23 601
      have hx34 : tpl A (s23 601) (c6 (p 600)) := by rw [f25 601 (by decide)]; exact hx22
      have hx9 : aa + 9 + 3 * pn < A.2 ∧ gB A (aa + 9 + 3 * pn) = 17 := rdB_g (by rw [show aa + 9 + 3 * pn = s5 2001 by omega]; exact k26)
      refine tt_k 3 (S' := (171, [some (.inr (.inl 17)), some (.inr (.inl 27)), some (.inl ln_), some (.inl lp_), some (.inl dp_), some (.inl hg), some (.inl wd), some (.inl pl_), some (.inl pn)], [.inl 0, .inr (.inl 20)], n, D, s23, p, c6)) rfl ?_
      refine tt_cl (by omega) rfl (e_expect (Zi := Zi) (q := q) (n := n) (D := D) (s := s23) (p := p) (c := c6) (by omega) hz (by omega) FK17.1 hS23 hC6 hW24 A 0 (by omega) hx34) ?_
      rintro _ H1 (⟨s35, rfl, rfl, hS35, hW36, f37, k38, k39, k40⟩ | ⟨rfl, hY41, hn42⟩)
      rotate_left
      · exact tt_ax rfl (hX12 _ (cXp_mono (cXp_tr FK17 (fr_wk (show fr s s23 [2001] from (fr_tr (fr_tr hF0 f8 (by decide)) f25 (by decide))) (by decide)) ((frp_rf : frp p p []) 8 (by decide)) hY41 (by decide) (by decide)) (by omega)) (by have h2 := rdB_gx (a := aa + 10 + 3 * pn) (by rw [show aa + 10 + 3 * pn = s23 2001 by omega]; exact hn42); exact h2.elim (fun h3 => Or.inr (by omega)) (fun h3 => Or.inl (fun h4 => h3 (h4.1 pn (by omega) (by omega)).2))))
      show tt Zi d 80 (174, [some (.inr (.inl 17)), some (.inr (.inl 27)), some (.inl ln_), some (.inl lp_), some (.inl dp_), some (.inl hg), some (.inl wd), some (.inl pl_), some (.inl pn)], [], n, D, s35, p, c6) _
      replace k38 : rdB A ((s23 2001)) = some 0 := k38
      replace k39 : (s35 2001) = (s23 2001) + 1 := k39
      replace k40 : (s35 2001) ≤ (s23 601) := k40
      have b43 : 0 ≤ (s35 2001) ∧ (s35 2001) ≤ 100000 := hS35 2001
      have e44 : s35 601 = (s23 601) := (f37 601 (by decide))
      have b45 : 0 ≤ (s35 601) ∧ (s35 601) ≤ 32768 := hS35 601
      have hx46 : tpl A (s35 601) (c6 (p 600)) := by rw [f37 601 (by decide)]; exact hx34
      have hx10 : aa + 10 + 3 * pn < A.2 ∧ gB A (aa + 10 + 3 * pn) = 0 := rdB_g (by rw [show aa + 10 + 3 * pn = s23 2001 by omega]; exact k38)
      refine tt_k 2 (S' := (144, [some (.inr (.inl 17)), some (.inr (.inl 27)), some (.inl ln_), some (.inl lp_), some (.inl dp_), some (.inl hg), some (.inl wd), some (.inl pl_), some (.inl (pn + 1))], [], n, D, s35, p, c6)) rfl ?_
      have hqn : gB A (s0 2001) = qN A aa pn := by unfold qN; rw [show aa + 8 + 3 * pn = s0 2001 by omega]
      have hk3 := k13
      have hk2 := k12
      rw [hqn] at hk3 hk2
      exact ih (pn + 1) s35 c6 (by omega) hS35 (fr_tr (fr_tr (fr_tr hF0 f8 (by decide)) f25 (by decide)) f37 (by decide)) hC6 hW36 FK17 (show (pn + 1) ≤ pl_ by omega) (nmO_s i1 ⟨hx9.2, hx10.2⟩ (fun j h1 h2 => by rw [← i3 j h1 h2]; exact hk3 j h1 h2)) (show (s35 2001) = aa + 8 + 3 * (pn + 1) ∧ (s35 2001) ≤ s 601 by omega) (fun j h1 h2 => by rw [hk2]; exact if e : j = pn then (by rw [e, ua_eq]) else (by rw [ua_ne (by omega)]; exact i3 j h1 (by omega))) (show (pl_ - (pn + 1)).toNat < m by omega)
set_option maxRecDepth 100000 in
set_option maxHeartbeats 4000000 in
theorem e_readFrame27 {g : Nat → Int} {Zi : Nat → Option (Nat × (Nat → Int))} {d n q : Nat} {D : Nat → Nat × Nat} {s : Nat → Int} {p : Nat → Nat} {c : Nat → Nat → Int} (hd : 6 ≤ d) (hz : zk Zi) (hq : q + 12 ≤ 400000) (hD : wd n p) (hS : bS s) (hC : bC D c) (hW : wp q g n D p s) (A : TN) (hp0 : tpl A (s 601) (c (p 600))) : tt Zi d 80 (0, [some (.inr (.inl 17)), some (.inr (.inl 27)), none, none, none, none, none, none, none], [], n, D, s, p, c) (fun R H => (∃ (n' : Nat) (D' : Nat → Nat × Nat) (s' : Nat → Int) (p' : Nat → Nat) (c' : Nat → Nat → Int), R = .inl none ∧ H = (n', D', s', p', c') ∧ bS s' ∧ bC D' c' ∧ wp q g n' D' p' s' ∧ fr s s' [1705, 1706, 2001, 2700, 2701, 2702, 2703] ∧ frp p p' [2704] ∧ ext n D n' D' ∧ fk p c n' p' c' [19, 2704] ∧ (okF A (s 2001)) ∧ (s' 2001 = s 2001 + 8 + 3 * qP A (s 2001)) ∧ (s' 2001 ≤ s 601) ∧ ((s' 2700 = qW A (s 2001) ∧ s' 2701 = qH A (s 2001)) ∧ (s' 2702 = qP A (s 2001) ∧ s' 2703 = qD A (s 2001))) ∧ (s' 1705 = 1 ∧ s' 1706 = qP A (s 2001)) ∧ (∀ j : Int, 0 ≤ j → j < qP A (s 2001) → c' 19 j.toNat = qN A (s 2001) j)) ∨ (R = .inr 12 ∧ cXp ((q + 1)) g s p c [19, 2704] [800, 801, 802, 803, 804, 805, 806, 807, 808, 809, 902, 1705, 1706, 2001, 2002, 2003, 2004, 2005, 2006, 2106, 2107, 2108, 2109, 2110, 2111, 2112, 2113, 2114, 2115, 2116, 2700, 2701, 2702, 2703] H ∧ (¬ okF A (s 2001)))) := by
  have b1 : 0 ≤ (s 601) ∧ (s 601) ≤ 32768 := hS 601
  have b2 : 0 ≤ (s 2001) ∧ (s 2001) ≤ 100000 := hS 2001
  have hA := hp0.1
  refine tt_k 2 (S' := (4, [some (.inr (.inl 17)), some (.inr (.inl 27)), none, none, none, none, none, none, none], [.inr (.inl 20)], n, D, s, p, c)) rfl ?_
  refine tt_cl (by omega) rfl (e_readTwo (Zi := Zi) (q := q) (n := n) (D := D) (s := s) (p := p) (c := c) (by omega) hz (by omega) hD hS hC hW A hp0) ?_
  rintro _ H1 (⟨s3, r4, rfl, rfl, hS3, hW5, f6, b7, k8, k9, k10⟩ | ⟨rfl, hY11, hn12⟩)
  rotate_left
  · exact tt_ax rfl (Or.inr ⟨rfl, cXp_mono (cXp_tr (fk_rf hD) (show fr s s [800, 801, 802, 803, 804, 805, 806, 807, 808, 809, 902, 1705, 1706, 2001, 2002, 2003, 2004, 2005, 2006, 2106, 2107, 2108, 2109, 2110, 2111, 2112, 2113, 2114, 2115, 2116, 2700, 2701, 2702, 2703] from fr_rf) ((frp_rf : frp p p [2704]) 8 (by decide)) hY11 (by decide) (by decide)) (by omega), (fun h => by have h2 := rdTwo_gn (a := s 2001) (by rw [show s 2001 = s 2001 by omega]; exact hn12); obtain ⟨o1, o2, o3, o4, o5, o6, o7⟩ := h; omega)⟩)
  show tt Zi d 80 (7, [some (.inr (.inl 17)), some (.inr (.inl 27)), none, none, none, none, none, none, none], [.inl r4], n, D, s3, p, c) _
  replace k8 : rdTwo A ((s 2001)) = some r4 := k8
  replace k9 : (s3 2001) = (s 2001) + 2 := k9
  replace k10 : (s3 2001) ≤ (s 601) := k10
  have b13 : 0 ≤ (s3 2001) ∧ (s3 2001) ≤ 100000 := hS3 2001
  have e14 : s3 601 = (s 601) := (f6 601 (by decide))
  have b15 : 0 ≤ (s3 601) ∧ (s3 601) ≤ 32768 := hS3 601
  have hx16 : tpl A (s3 601) (c (p 600)) := by rw [f6 601 (by decide)]; exact hp0
  have hg0 : s 2001 + 1 < A.2 ∧ gT A (s 2001) = r4 := rdTwo_g (by rw [show s 2001 = s 2001 by omega]; exact k8)
  refine tt_k 3 (S' := (12, [some (.inr (.inl 17)), some (.inr (.inl 27)), some (.inl r4), none, none, none, none, none, none], [.inr (.inl 20)], n, D, s3, p, c)) rfl ?_
  refine tt_cl (by omega) rfl (g_openPlace (Zi := Zi) (q := q) (n := n) (D := D) (s := s3) (p := p) (c := c) (by omega) hz (by omega) hD hS3 hC hW5 ) ?_
  rintro _ _ ⟨r17, rfl, rfl, b18, k19⟩
  show tt Zi d 80 (15, [some (.inr (.inl 17)), some (.inr (.inl 27)), some (.inl r4), none, none, none, none, none, none], [.inl r17], n, D, s3, p, c) _
  replace k19 : r17 = (s3 2001) - 1 := k19
  refine tt_k 5 (S' := (22, [some (.inr (.inl 17)), some (.inr (.inl 27)), some (.inl r4), some (.inl (r17 - 1)), none, none, none, none, none], [.inr (.inl 20)], n, D, s3, p, c)) rfl ?_
  refine tt_cl (by omega) rfl (e_readByte (Zi := Zi) (q := q) (n := n) (D := D) (s := s3) (p := p) (c := c) (by omega) hz (by omega) hD hS3 hC hW5 A hx16) ?_
  rintro _ H1 (⟨s20, r21, rfl, rfl, hS20, hW22, f23, b24, k25, k26, k27⟩ | ⟨rfl, hY28, hn29⟩)
  rotate_left
  · exact tt_ax rfl (Or.inr ⟨rfl, cXp_mono (cXp_tr (fk_rf hD) (show fr s s3 [800, 801, 802, 803, 804, 805, 806, 807, 808, 809, 902, 1705, 1706, 2001, 2002, 2003, 2004, 2005, 2006, 2106, 2107, 2108, 2109, 2110, 2111, 2112, 2113, 2114, 2115, 2116, 2700, 2701, 2702, 2703] from (fr_tr fr_rf f6 (by decide))) ((frp_rf : frp p p [2704]) 8 (by decide)) hY28 (by decide) (by decide)) (by omega), (fun h => by have h2 := rdB_gn (a := s 2001 + 2) (by rw [show s 2001 + 2 = s3 2001 by omega]; exact hn29); obtain ⟨o1, o2, o3, o4, o5, o6, o7⟩ := h; omega)⟩)
  show tt Zi d 80 (25, [some (.inr (.inl 17)), some (.inr (.inl 27)), some (.inl r4), some (.inl (r17 - 1)), none, none, none, none, none], [.inl r21], n, D, s20, p, c) _
  replace k25 : rdB A ((s3 2001)) = some r21 := k25
  replace k26 : (s20 2001) = (s3 2001) + 1 := k26
  replace k27 : (s20 2001) ≤ (s3 601) := k27
  have b30 : 0 ≤ (s20 2001) ∧ (s20 2001) ≤ 100000 := hS20 2001
  have e31 : s20 601 = (s3 601) := (f23 601 (by decide))
  have b32 : 0 ≤ (s20 601) ∧ (s20 601) ≤ 32768 := hS20 601
  have hx33 : tpl A (s20 601) (c (p 600)) := by rw [f23 601 (by decide)]; exact hx16
  have hg2 : s 2001 + 2 < A.2 ∧ qD A (s 2001) = r21 := rdB_g (by rw [show s 2001 + 2 = s3 2001 by omega]; exact k25)
  refine tt_k 3 (S' := (30, [some (.inr (.inl 17)), some (.inr (.inl 27)), some (.inl r4), some (.inl (r17 - 1)), some (.inl r21), none, none, none, none], [.inl r21, .inr (.inl 17)], n, D, s20, p, c)) rfl ?_
  refine tt_cl (by omega) rfl (g_isDepth (Zi := Zi) (q := q) (n := n) (D := D) (s := s20) (p := p) (c := c) (by omega) hz (by omega) hD hS20 hC hW22 r21 (by omega)) ?_
  rintro _ _ ⟨r34, rfl, rfl, b35, k36⟩
  show tt Zi d 80 (33, [some (.inr (.inl 17)), some (.inr (.inl 27)), some (.inl r4), some (.inl (r17 - 1)), some (.inl r21), none, none, none, none], [.inl r34, .inr (.inl 17)], n, D, s20, p, c) _
  replace k36 : r34 = 1 ↔ (2 ≤ r21 ∧ r21 ≤ 16) := k36
  refine tt_k 2 (S' := (37, [some (.inr (.inl 17)), some (.inr (.inl 27)), some (.inl r4), some (.inl (r17 - 1)), some (.inl r21), none, none, none, none], [.inr (.inl 20), .inl r34, .inr (.inl 17)], n, D, s20, p, c)) rfl ?_
  refine tt_cl (by omega) rfl (g_openPlace (Zi := Zi) (q := q) (n := n) (D := D) (s := s20) (p := p) (c := c) (by omega) hz (by omega) hD hS20 hC hW22 ) ?_
  rintro _ _ ⟨r37, rfl, rfl, b38, k39⟩
  show tt Zi d 80 (40, [some (.inr (.inl 17)), some (.inr (.inl 27)), some (.inl r4), some (.inl (r17 - 1)), some (.inl r21), none, none, none, none], [.inl r37, .inl r34, .inr (.inl 17)], n, D, s20, p, c) _
  replace k39 : r37 = (s20 2001) - 1 := k39
  refine tt_cl (by omega) rfl (e_checkContent (Zi := Zi) (q := q) (n := n) (D := D) (s := s20) (p := p) (c := c) (by omega) hz (by omega) hD hS20 hC hW22 r34 r37 (by omega) (by omega)) ?_
  rintro _ H1 (⟨rfl, rfl, k40⟩ | ⟨rfl, hY41, hn42⟩)
  rotate_left
  · exact tt_ax rfl (Or.inr ⟨rfl, cXp_mono (cXp_tr (fk_rf hD) (show fr s s20 [800, 801, 802, 803, 804, 805, 806, 807, 808, 809, 902, 1705, 1706, 2001, 2002, 2003, 2004, 2005, 2006, 2106, 2107, 2108, 2109, 2110, 2111, 2112, 2113, 2114, 2115, 2116, 2700, 2701, 2702, 2703] from (fr_tr (fr_tr fr_rf f6 (by decide)) f23 (by decide))) ((frp_rf : frp p p [2704]) 8 (by decide)) hY41 (by decide) (by decide)) (by omega), (fun h => by obtain ⟨o1, o2, o3, o4, o5, o6, o7⟩ := h; omega)⟩)
  show tt Zi d 80 (43, [some (.inr (.inl 17)), some (.inr (.inl 27)), some (.inl r4), some (.inl (r17 - 1)), some (.inl r21), none, none, none, none], [], n, D, s20, p, c) _
  replace k40 : r34 = 1 := k40
  refine tt_k 2 (S' := (47, [some (.inr (.inl 17)), some (.inr (.inl 27)), some (.inl r4), some (.inl (r17 - 1)), some (.inl r21), none, none, none, none], [.inr (.inl 20)], n, D, s20, p, c)) rfl ?_
  refine tt_cl (by omega) rfl (e_readTwo (Zi := Zi) (q := q) (n := n) (D := D) (s := s20) (p := p) (c := c) (by omega) hz (by omega) hD hS20 hC hW22 A hx33) ?_
  rintro _ H1 (⟨s43, r44, rfl, rfl, hS43, hW45, f46, b47, k48, k49, k50⟩ | ⟨rfl, hY51, hn52⟩)
  rotate_left
  · exact tt_ax rfl (Or.inr ⟨rfl, cXp_mono (cXp_tr (fk_rf hD) (show fr s s20 [800, 801, 802, 803, 804, 805, 806, 807, 808, 809, 902, 1705, 1706, 2001, 2002, 2003, 2004, 2005, 2006, 2106, 2107, 2108, 2109, 2110, 2111, 2112, 2113, 2114, 2115, 2116, 2700, 2701, 2702, 2703] from (fr_tr (fr_tr fr_rf f6 (by decide)) f23 (by decide))) ((frp_rf : frp p p [2704]) 8 (by decide)) hY51 (by decide) (by decide)) (by omega), (fun h => by have h2 := rdTwo_gn (a := s 2001 + 3) (by rw [show s 2001 + 3 = s20 2001 by omega]; exact hn52); obtain ⟨o1, o2, o3, o4, o5, o6, o7⟩ := h; omega)⟩)
  show tt Zi d 80 (50, [some (.inr (.inl 17)), some (.inr (.inl 27)), some (.inl r4), some (.inl (r17 - 1)), some (.inl r21), none, none, none, none], [.inl r44], n, D, s43, p, c) _
  replace k48 : rdTwo A ((s20 2001)) = some r44 := k48
  replace k49 : (s43 2001) = (s20 2001) + 2 := k49
  replace k50 : (s43 2001) ≤ (s20 601) := k50
  have b53 : 0 ≤ (s43 2001) ∧ (s43 2001) ≤ 100000 := hS43 2001
  have e54 : s43 601 = (s20 601) := (f46 601 (by decide))
  have b55 : 0 ≤ (s43 601) ∧ (s43 601) ≤ 32768 := hS43 601
  have hx56 : tpl A (s43 601) (c (p 600)) := by rw [f46 601 (by decide)]; exact hx33
  have hg3 : s 2001 + 3 + 1 < A.2 ∧ qH A (s 2001) = r44 := rdTwo_g (by rw [show s 2001 + 3 = s20 2001 by omega]; exact k48)
  refine tt_k 3 (S' := (55, [some (.inr (.inl 17)), some (.inr (.inl 27)), some (.inl r4), some (.inl (r17 - 1)), some (.inl r21), some (.inl r44), none, none, none], [.inl r44, .inr (.inl 17)], n, D, s43, p, c)) rfl ?_
  refine tt_cl (by omega) rfl (g_isSide (Zi := Zi) (q := q) (n := n) (D := D) (s := s43) (p := p) (c := c) (by omega) hz (by omega) hD hS43 hC hW45 r44 (by omega)) ?_
  rintro _ _ ⟨r57, rfl, rfl, b58, k59⟩
  show tt Zi d 80 (58, [some (.inr (.inl 17)), some (.inr (.inl 27)), some (.inl r4), some (.inl (r17 - 1)), some (.inl r21), some (.inl r44), none, none, none], [.inl r57, .inr (.inl 17)], n, D, s43, p, c) _
  replace k59 : r57 = 1 ↔ (1 ≤ r44 ∧ r44 ≤ 64) := k59
  refine tt_k 2 (S' := (62, [some (.inr (.inl 17)), some (.inr (.inl 27)), some (.inl r4), some (.inl (r17 - 1)), some (.inl r21), some (.inl r44), none, none, none], [.inr (.inl 20), .inl r57, .inr (.inl 17)], n, D, s43, p, c)) rfl ?_
  refine tt_cl (by omega) rfl (g_openPlace (Zi := Zi) (q := q) (n := n) (D := D) (s := s43) (p := p) (c := c) (by omega) hz (by omega) hD hS43 hC hW45 ) ?_
  rintro _ _ ⟨r60, rfl, rfl, b61, k62⟩
  show tt Zi d 80 (65, [some (.inr (.inl 17)), some (.inr (.inl 27)), some (.inl r4), some (.inl (r17 - 1)), some (.inl r21), some (.inl r44), none, none, none], [.inl r60, .inl r57, .inr (.inl 17)], n, D, s43, p, c) _
  replace k62 : r60 = (s43 2001) - 1 := k62
  refine tt_k 2 (S' := (67, [some (.inr (.inl 17)), some (.inr (.inl 27)), some (.inl r4), some (.inl (r17 - 1)), some (.inl r21), some (.inl r44), none, none, none], [.inl (r60 - 1), .inl r57, .inr (.inl 17)], n, D, s43, p, c)) rfl ?_
  refine tt_cl (by omega) rfl (e_checkContent (Zi := Zi) (q := q) (n := n) (D := D) (s := s43) (p := p) (c := c) (by omega) hz (by omega) hD hS43 hC hW45 r57 (r60 - 1) (by omega) (by omega)) ?_
  rintro _ H1 (⟨rfl, rfl, k63⟩ | ⟨rfl, hY64, hn65⟩)
  rotate_left
  · exact tt_ax rfl (Or.inr ⟨rfl, cXp_mono (cXp_tr (fk_rf hD) (show fr s s43 [800, 801, 802, 803, 804, 805, 806, 807, 808, 809, 902, 1705, 1706, 2001, 2002, 2003, 2004, 2005, 2006, 2106, 2107, 2108, 2109, 2110, 2111, 2112, 2113, 2114, 2115, 2116, 2700, 2701, 2702, 2703] from (fr_tr (fr_tr (fr_tr fr_rf f6 (by decide)) f23 (by decide)) f46 (by decide))) ((frp_rf : frp p p [2704]) 8 (by decide)) hY64 (by decide) (by decide)) (by omega), (fun h => by obtain ⟨o1, o2, o3, o4, o5, o6, o7⟩ := h; omega)⟩)
  show tt Zi d 80 (70, [some (.inr (.inl 17)), some (.inr (.inl 27)), some (.inl r4), some (.inl (r17 - 1)), some (.inl r21), some (.inl r44), none, none, none], [], n, D, s43, p, c) _
  replace k63 : r57 = 1 := k63
  refine tt_k 2 (S' := (74, [some (.inr (.inl 17)), some (.inr (.inl 27)), some (.inl r4), some (.inl (r17 - 1)), some (.inl r21), some (.inl r44), none, none, none], [.inr (.inl 20)], n, D, s43, p, c)) rfl ?_
  refine tt_cl (by omega) rfl (e_readTwo (Zi := Zi) (q := q) (n := n) (D := D) (s := s43) (p := p) (c := c) (by omega) hz (by omega) hD hS43 hC hW45 A hx56) ?_
  rintro _ H1 (⟨s66, r67, rfl, rfl, hS66, hW68, f69, b70, k71, k72, k73⟩ | ⟨rfl, hY74, hn75⟩)
  rotate_left
  · exact tt_ax rfl (Or.inr ⟨rfl, cXp_mono (cXp_tr (fk_rf hD) (show fr s s43 [800, 801, 802, 803, 804, 805, 806, 807, 808, 809, 902, 1705, 1706, 2001, 2002, 2003, 2004, 2005, 2006, 2106, 2107, 2108, 2109, 2110, 2111, 2112, 2113, 2114, 2115, 2116, 2700, 2701, 2702, 2703] from (fr_tr (fr_tr (fr_tr fr_rf f6 (by decide)) f23 (by decide)) f46 (by decide))) ((frp_rf : frp p p [2704]) 8 (by decide)) hY74 (by decide) (by decide)) (by omega), (fun h => by have h2 := rdTwo_gn (a := s 2001 + 5) (by rw [show s 2001 + 5 = s43 2001 by omega]; exact hn75); obtain ⟨o1, o2, o3, o4, o5, o6, o7⟩ := h; omega)⟩)
  show tt Zi d 80 (77, [some (.inr (.inl 17)), some (.inr (.inl 27)), some (.inl r4), some (.inl (r17 - 1)), some (.inl r21), some (.inl r44), none, none, none], [.inl r67], n, D, s66, p, c) _
  replace k71 : rdTwo A ((s43 2001)) = some r67 := k71
  replace k72 : (s66 2001) = (s43 2001) + 2 := k72
  replace k73 : (s66 2001) ≤ (s43 601) := k73
  have b76 : 0 ≤ (s66 2001) ∧ (s66 2001) ≤ 100000 := hS66 2001
  have e77 : s66 601 = (s43 601) := (f69 601 (by decide))
  have b78 : 0 ≤ (s66 601) ∧ (s66 601) ≤ 32768 := hS66 601
  have hx79 : tpl A (s66 601) (c (p 600)) := by rw [f69 601 (by decide)]; exact hx56
  have hg5 : s 2001 + 5 + 1 < A.2 ∧ qW A (s 2001) = r67 := rdTwo_g (by rw [show s 2001 + 5 = s43 2001 by omega]; exact k71)
  refine tt_k 3 (S' := (82, [some (.inr (.inl 17)), some (.inr (.inl 27)), some (.inl r4), some (.inl (r17 - 1)), some (.inl r21), some (.inl r44), some (.inl r67), none, none], [.inl r67, .inr (.inl 17)], n, D, s66, p, c)) rfl ?_
  refine tt_cl (by omega) rfl (g_isSide (Zi := Zi) (q := q) (n := n) (D := D) (s := s66) (p := p) (c := c) (by omega) hz (by omega) hD hS66 hC hW68 r67 (by omega)) ?_
  rintro _ _ ⟨r80, rfl, rfl, b81, k82⟩
  show tt Zi d 80 (85, [some (.inr (.inl 17)), some (.inr (.inl 27)), some (.inl r4), some (.inl (r17 - 1)), some (.inl r21), some (.inl r44), some (.inl r67), none, none], [.inl r80, .inr (.inl 17)], n, D, s66, p, c) _
  replace k82 : r80 = 1 ↔ (1 ≤ r67 ∧ r67 ≤ 64) := k82
  refine tt_k 2 (S' := (89, [some (.inr (.inl 17)), some (.inr (.inl 27)), some (.inl r4), some (.inl (r17 - 1)), some (.inl r21), some (.inl r44), some (.inl r67), none, none], [.inr (.inl 20), .inl r80, .inr (.inl 17)], n, D, s66, p, c)) rfl ?_
  refine tt_cl (by omega) rfl (g_openPlace (Zi := Zi) (q := q) (n := n) (D := D) (s := s66) (p := p) (c := c) (by omega) hz (by omega) hD hS66 hC hW68 ) ?_
  rintro _ _ ⟨r83, rfl, rfl, b84, k85⟩
  show tt Zi d 80 (92, [some (.inr (.inl 17)), some (.inr (.inl 27)), some (.inl r4), some (.inl (r17 - 1)), some (.inl r21), some (.inl r44), some (.inl r67), none, none], [.inl r83, .inl r80, .inr (.inl 17)], n, D, s66, p, c) _
  replace k85 : r83 = (s66 2001) - 1 := k85
  refine tt_k 2 (S' := (94, [some (.inr (.inl 17)), some (.inr (.inl 27)), some (.inl r4), some (.inl (r17 - 1)), some (.inl r21), some (.inl r44), some (.inl r67), none, none], [.inl (r83 - 1), .inl r80, .inr (.inl 17)], n, D, s66, p, c)) rfl ?_
  refine tt_cl (by omega) rfl (e_checkContent (Zi := Zi) (q := q) (n := n) (D := D) (s := s66) (p := p) (c := c) (by omega) hz (by omega) hD hS66 hC hW68 r80 (r83 - 1) (by omega) (by omega)) ?_
  rintro _ H1 (⟨rfl, rfl, k86⟩ | ⟨rfl, hY87, hn88⟩)
  rotate_left
  · exact tt_ax rfl (Or.inr ⟨rfl, cXp_mono (cXp_tr (fk_rf hD) (show fr s s66 [800, 801, 802, 803, 804, 805, 806, 807, 808, 809, 902, 1705, 1706, 2001, 2002, 2003, 2004, 2005, 2006, 2106, 2107, 2108, 2109, 2110, 2111, 2112, 2113, 2114, 2115, 2116, 2700, 2701, 2702, 2703] from (fr_tr (fr_tr (fr_tr (fr_tr fr_rf f6 (by decide)) f23 (by decide)) f46 (by decide)) f69 (by decide))) ((frp_rf : frp p p [2704]) 8 (by decide)) hY87 (by decide) (by decide)) (by omega), (fun h => by obtain ⟨o1, o2, o3, o4, o5, o6, o7⟩ := h; omega)⟩)
  show tt Zi d 80 (97, [some (.inr (.inl 17)), some (.inr (.inl 27)), some (.inl r4), some (.inl (r17 - 1)), some (.inl r21), some (.inl r44), some (.inl r67), none, none], [], n, D, s66, p, c) _
  replace k86 : r80 = 1 := k86
  refine tt_k 2 (S' := (101, [some (.inr (.inl 17)), some (.inr (.inl 27)), some (.inl r4), some (.inl (r17 - 1)), some (.inl r21), some (.inl r44), some (.inl r67), none, none], [.inr (.inl 20)], n, D, s66, p, c)) rfl ?_
  refine tt_cl (by omega) rfl (e_readByte (Zi := Zi) (q := q) (n := n) (D := D) (s := s66) (p := p) (c := c) (by omega) hz (by omega) hD hS66 hC hW68 A hx79) ?_
  rintro _ H1 (⟨s89, r90, rfl, rfl, hS89, hW91, f92, b93, k94, k95, k96⟩ | ⟨rfl, hY97, hn98⟩)
  rotate_left
  · exact tt_ax rfl (Or.inr ⟨rfl, cXp_mono (cXp_tr (fk_rf hD) (show fr s s66 [800, 801, 802, 803, 804, 805, 806, 807, 808, 809, 902, 1705, 1706, 2001, 2002, 2003, 2004, 2005, 2006, 2106, 2107, 2108, 2109, 2110, 2111, 2112, 2113, 2114, 2115, 2116, 2700, 2701, 2702, 2703] from (fr_tr (fr_tr (fr_tr (fr_tr fr_rf f6 (by decide)) f23 (by decide)) f46 (by decide)) f69 (by decide))) ((frp_rf : frp p p [2704]) 8 (by decide)) hY97 (by decide) (by decide)) (by omega), (fun h => by have h2 := rdB_gn (a := s 2001 + 7) (by rw [show s 2001 + 7 = s66 2001 by omega]; exact hn98); obtain ⟨o1, o2, o3, o4, o5, o6, o7⟩ := h; omega)⟩)
  show tt Zi d 80 (104, [some (.inr (.inl 17)), some (.inr (.inl 27)), some (.inl r4), some (.inl (r17 - 1)), some (.inl r21), some (.inl r44), some (.inl r67), none, none], [.inl r90], n, D, s89, p, c) _
  replace k94 : rdB A ((s66 2001)) = some r90 := k94
  replace k95 : (s89 2001) = (s66 2001) + 1 := k95
  replace k96 : (s89 2001) ≤ (s66 601) := k96
  have b99 : 0 ≤ (s89 2001) ∧ (s89 2001) ≤ 100000 := hS89 2001
  have e100 : s89 601 = (s66 601) := (f92 601 (by decide))
  have b101 : 0 ≤ (s89 601) ∧ (s89 601) ≤ 32768 := hS89 601
  have hx102 : tpl A (s89 601) (c (p 600)) := by rw [f92 601 (by decide)]; exact hx79
  have hg7 : s 2001 + 7 < A.2 ∧ qP A (s 2001) = r90 := rdB_g (by rw [show s 2001 + 7 = s66 2001 by omega]; exact k94)
  refine tt_k 3 (S' := (109, [some (.inr (.inl 17)), some (.inr (.inl 27)), some (.inl r4), some (.inl (r17 - 1)), some (.inl r21), some (.inl r44), some (.inl r67), some (.inl r90), none], [.inl r90, .inr (.inl 17)], n, D, s89, p, c)) rfl ?_
  refine tt_cl (by omega) rfl (g_isPC (Zi := Zi) (q := q) (n := n) (D := D) (s := s89) (p := p) (c := c) (by omega) hz (by omega) hD hS89 hC hW91 r90 (by omega)) ?_
  rintro _ _ ⟨r103, rfl, rfl, b104, k105⟩
  show tt Zi d 80 (112, [some (.inr (.inl 17)), some (.inr (.inl 27)), some (.inl r4), some (.inl (r17 - 1)), some (.inl r21), some (.inl r44), some (.inl r67), some (.inl r90), none], [.inl r103, .inr (.inl 17)], n, D, s89, p, c) _
  replace k105 : r103 = 1 ↔ (r90 = 1 ∨ r90 = 3) := k105
  refine tt_k 2 (S' := (116, [some (.inr (.inl 17)), some (.inr (.inl 27)), some (.inl r4), some (.inl (r17 - 1)), some (.inl r21), some (.inl r44), some (.inl r67), some (.inl r90), none], [.inr (.inl 20), .inl r103, .inr (.inl 17)], n, D, s89, p, c)) rfl ?_
  refine tt_cl (by omega) rfl (g_openPlace (Zi := Zi) (q := q) (n := n) (D := D) (s := s89) (p := p) (c := c) (by omega) hz (by omega) hD hS89 hC hW91 ) ?_
  rintro _ _ ⟨r106, rfl, rfl, b107, k108⟩
  show tt Zi d 80 (119, [some (.inr (.inl 17)), some (.inr (.inl 27)), some (.inl r4), some (.inl (r17 - 1)), some (.inl r21), some (.inl r44), some (.inl r67), some (.inl r90), none], [.inl r106, .inl r103, .inr (.inl 17)], n, D, s89, p, c) _
  replace k108 : r106 = (s89 2001) - 1 := k108
  refine tt_cl (by omega) rfl (e_checkContent (Zi := Zi) (q := q) (n := n) (D := D) (s := s89) (p := p) (c := c) (by omega) hz (by omega) hD hS89 hC hW91 r103 r106 (by omega) (by omega)) ?_
  rintro _ H1 (⟨rfl, rfl, k109⟩ | ⟨rfl, hY110, hn111⟩)
  rotate_left
  · exact tt_ax rfl (Or.inr ⟨rfl, cXp_mono (cXp_tr (fk_rf hD) (show fr s s89 [800, 801, 802, 803, 804, 805, 806, 807, 808, 809, 902, 1705, 1706, 2001, 2002, 2003, 2004, 2005, 2006, 2106, 2107, 2108, 2109, 2110, 2111, 2112, 2113, 2114, 2115, 2116, 2700, 2701, 2702, 2703] from (fr_tr (fr_tr (fr_tr (fr_tr (fr_tr fr_rf f6 (by decide)) f23 (by decide)) f46 (by decide)) f69 (by decide)) f92 (by decide))) ((frp_rf : frp p p [2704]) 8 (by decide)) hY110 (by decide) (by decide)) (by omega), (fun h => by obtain ⟨o1, o2, o3, o4, o5, o6, o7⟩ := h; omega)⟩)
  show tt Zi d 80 (122, [some (.inr (.inl 17)), some (.inr (.inl 27)), some (.inl r4), some (.inl (r17 - 1)), some (.inl r21), some (.inl r44), some (.inl r67), some (.inl r90), none], [], n, D, s89, p, c) _
  replace k109 : r103 = 1 := k109
  refine tt_k 3 (S' := (126, [some (.inr (.inl 17)), some (.inr (.inl 27)), some (.inl r4), some (.inl (r17 - 1)), some (.inl r21), some (.inl r44), some (.inl r67), some (.inl r90), none], [.inl r90, .inl r4, .inr (.inl 17)], n, D, s89, p, c)) rfl ?_
  refine tt_cl (by omega) rfl (g_frameLength (Zi := Zi) (q := q) (n := n) (D := D) (s := s89) (p := p) (c := c) (by omega) hz (by omega) hD hS89 hC hW91 r90 (by omega)) ?_
  rintro _ _ ⟨r112, rfl, rfl, b113, k114⟩
  show tt Zi d 80 (129, [some (.inr (.inl 17)), some (.inr (.inl 27)), some (.inl r4), some (.inl (r17 - 1)), some (.inl r21), some (.inl r44), some (.inl r67), some (.inl r90), none], [.inl r112, .inl r4, .inr (.inl 17)], n, D, s89, p, c) _
  replace k114 : r112 = 8 + 3 * r90 := k114
  have K116 : ∀ (j115 : Int) , (0 ≤ j115 ∧ j115 ≤ 1) → (j115 = 1 ↔ r4 = 8 + 3 * r90) → (True) → tt Zi d 80 (137, [some (.inr (.inl 17)), some (.inr (.inl 27)), some (.inl r4), some (.inl (r17 - 1)), some (.inl r21), some (.inl r44), some (.inl r67), some (.inl r90), none], [.inl j115, .inr (.inl 17)], n, D, s89, p, c) (fun R H => (∃ (n' : Nat) (D' : Nat → Nat × Nat) (s' : Nat → Int) (p' : Nat → Nat) (c' : Nat → Nat → Int), R = .inl none ∧ H = (n', D', s', p', c') ∧ bS s' ∧ bC D' c' ∧ wp q g n' D' p' s' ∧ fr s s' [1705, 1706, 2001, 2700, 2701, 2702, 2703] ∧ frp p p' [2704] ∧ ext n D n' D' ∧ fk p c n' p' c' [19, 2704] ∧ (okF A (s 2001)) ∧ (s' 2001 = s 2001 + 8 + 3 * qP A (s 2001)) ∧ (s' 2001 ≤ s 601) ∧ ((s' 2700 = qW A (s 2001) ∧ s' 2701 = qH A (s 2001)) ∧ (s' 2702 = qP A (s 2001) ∧ s' 2703 = qD A (s 2001))) ∧ (s' 1705 = 1 ∧ s' 1706 = qP A (s 2001)) ∧ (∀ j : Int, 0 ≤ j → j < qP A (s 2001) → c' 19 j.toNat = qN A (s 2001) j)) ∨ (R = .inr 12 ∧ cXp ((q + 1)) g s p c [19, 2704] [800, 801, 802, 803, 804, 805, 806, 807, 808, 809, 902, 1705, 1706, 2001, 2002, 2003, 2004, 2005, 2006, 2106, 2107, 2108, 2109, 2110, 2111, 2112, 2113, 2114, 2115, 2116, 2700, 2701, 2702, 2703] H ∧ (¬ okF A (s 2001)))) := by
    intro j115 b118 b119 hj117
    refine tt_k 1 (S' := (138, [some (.inr (.inl 17)), some (.inr (.inl 27)), some (.inl r4), some (.inl (r17 - 1)), some (.inl r21), some (.inl r44), some (.inl r67), some (.inl r90), none], [.inl (r17 - 1), .inl j115, .inr (.inl 17)], n, D, s89, p, c)) rfl ?_
    refine tt_cl (by omega) rfl (e_checkLength (Zi := Zi) (q := q) (n := n) (D := D) (s := s89) (p := p) (c := c) (by omega) hz (by omega) hD hS89 hC hW91 j115 (r17 - 1) (by omega) (by omega)) ?_
    rintro _ H1 (⟨rfl, rfl, k120⟩ | ⟨rfl, hY121, hn122⟩)
    rotate_left
    · exact tt_ax rfl (Or.inr ⟨rfl, cXp_mono (cXp_tr (fk_rf hD) (show fr s s89 [800, 801, 802, 803, 804, 805, 806, 807, 808, 809, 902, 1705, 1706, 2001, 2002, 2003, 2004, 2005, 2006, 2106, 2107, 2108, 2109, 2110, 2111, 2112, 2113, 2114, 2115, 2116, 2700, 2701, 2702, 2703] from (fr_tr (fr_tr (fr_tr (fr_tr (fr_tr fr_rf f6 (by decide)) f23 (by decide)) f46 (by decide)) f69 (by decide)) f92 (by decide))) ((frp_rf : frp p p [2704]) 8 (by decide)) hY121 (by decide) (by decide)) (by omega), (fun h => by obtain ⟨o1, o2, o3, o4, o5, o6, o7⟩ := h; omega)⟩)
    show tt Zi d 80 (141, [some (.inr (.inl 17)), some (.inr (.inl 27)), some (.inl r4), some (.inl (r17 - 1)), some (.inl r21), some (.inl r44), some (.inl r67), some (.inl r90), none], [], n, D, s89, p, c) _
    replace k120 : j115 = 1 := k120
    refine tt_k 2 (S' := (144, [some (.inr (.inl 17)), some (.inr (.inl 27)), some (.inl r4), some (.inl (r17 - 1)), some (.inl r21), some (.inl r44), some (.inl r67), some (.inl r90), some (.inl 0)], [], n, D, s89, p, c)) rfl ?_
    refine e_readFrame27_L144 (Zi := Zi) (q := q) (n := n) (D := D) (s := s89) (p := p) (c := c) hd hz (by omega) hD hS89 hC hW91 A (s 2001) r4 (r17 - 1) r21 r44 r67 r90 (by omega) (by omega) (by omega) (by omega) (by omega) (by omega) hx102 (fun H h hq9 => (Or.inr ⟨rfl, cXp_mono (cXp_tr (fk_rf hD) (show fr s s89 [800, 801, 802, 803, 804, 805, 806, 807, 808, 809, 902, 1705, 1706, 2001, 2002, 2003, 2004, 2005, 2006, 2106, 2107, 2108, 2109, 2110, 2111, 2112, 2113, 2114, 2115, 2116, 2700, 2701, 2702, 2703] from (fr_tr (fr_tr (fr_tr (fr_tr (fr_tr fr_rf f6 (by decide)) f23 (by decide)) f46 (by decide)) f69 (by decide)) f92 (by decide))) ((frp_rf : frp p p [2704]) 8 (by decide)) h (by decide) (by decide)) (by omega), (fun h => by obtain ⟨o1, o2, o3, o4, o5, o6, o7⟩ := h; exact (hq9).elim (fun h3 => h3 (by rw [← hg7.2]; exact o7)) (fun h3 => by omega))⟩)) ?_ _ 0 s89 c (by omega) hS89 fr_rf hC hW91 (fk_rf hD) (show 0 ≤ r90 by omega) nmO_0 (show (s89 2001) = (s 2001) + 8 + 3 * 0 ∧ (s89 2001) ≤ (s89 601) by omega) (fun j h1 h2 => absurd h2 (by omega)) (Nat.lt_succ_self _)
    intro x123 s124 c125 b126 hS124 f127 hC125 hW128 kf129 i130 i131 i132 i133 hx134
    show tt Zi d 80 (180, [some (.inr (.inl 17)), some (.inr (.inl 27)), some (.inl r4), some (.inl (r17 - 1)), some (.inl r21), some (.inl r44), some (.inl r67), some (.inl r90), some (.inl x123)], [], n, D, s124, p, c125) _
    have FK135 : fk p c n p c125 [19, 2704] := fk_tr (fk_rf hD) kf129 (by decide)
    replace i130 : x123 ≤ r90 := i130
    replace i131 : nmO A (s 2001) x123 := i131
    replace i132 : (s124 2001) = (s 2001) + 8 + 3 * x123 ∧ (s124 2001) ≤ (s89 601) := i132
    have b136 : 0 ≤ (s124 2001) ∧ (s124 2001) ≤ 100000 := hS124 2001
    replace hx134 : r90 ≤ x123 := hx134
    have e137 : s124 601 = (s89 601) := (f127 601 (by decide))
    have b138 : 0 ≤ (s124 601) ∧ (s124 601) ≤ 32768 := hS124 601
    have hx139 : tpl A (s124 601) (c125 (p 600)) := by rw [f127 601 (by decide), fk_k (k := 600) kf129 (by decide)]; exact hx102
    refine tt_k 5 (S' := (189, [some (.inr (.inl 17)), some (.inr (.inl 27)), some (.inl r4), some (.inl (r17 - 1)), some (.inl r21), some (.inl r44), some (.inl r67), some (.inl r90), some (.inl x123)], [.inl r21, .inl r90, .inl r44, .inl r67, .inr (.inl 27)], n, D, s124, p, c125)) rfl ?_
    refine tt_cl (by omega) rfl (g_reshape27 (Zi := Zi) (q := q) (n := n) (D := D) (s := s124) (p := p) (c := c125) (by omega) hz (by omega) FK135.1 hS124 hC125 hW128 r67 r44 r90 r21 (by omega) (by omega) (by omega) (by omega)) ?_
    rintro _ _ ⟨n140, D141, s142, p143, c144, rfl, rfl, hS142, hC144, hW145, f146, g147, xe148, kf149, k150, k151, k152, k153, k154⟩
    have FK155 : fk p c n140 p143 c144 [19, 2704] := fk_tr FK135 kf149 (by decide)
    show tt Zi d 80 (192, [some (.inr (.inl 17)), some (.inr (.inl 27)), some (.inl r4), some (.inl (r17 - 1)), some (.inl r21), some (.inl r44), some (.inl r67), some (.inl r90), some (.inl x123)], [], n140, D141, s142, p143, c144) _
    replace k150 : (s142 2700) = r67 := k150
    replace k151 : (s142 2701) = r44 := k151
    replace k152 : (s142 2702) = r90 := k152
    replace k153 : (s142 2703) = r21 := k153
    have b156 : 0 ≤ (s142 2700) ∧ (s142 2700) ≤ 64 := hS142 2700
    have b157 : 0 ≤ (s142 2701) ∧ (s142 2701) ≤ 64 := hS142 2701
    have b158 : 0 ≤ (s142 2702) ∧ (s142 2702) ≤ 3 := hS142 2702
    have b159 : 0 ≤ (s142 2703) ∧ (s142 2703) ≤ 16 := hS142 2703
    have e160 : s142 601 = (s124 601) := (f146 601 (by decide))
    have b161 : 0 ≤ (s142 601) ∧ (s142 601) ≤ 32768 := hS142 601
    have e162 : s142 2001 = (s124 2001) := (f146 2001 (by decide))
    have b163 : 0 ≤ (s142 2001) ∧ (s142 2001) ≤ 100000 := hS142 2001
    have hx164 : tpl A (s142 601) (c144 (p143 600)) := by rw [f146 601 (by decide), fk_k (k := 600) kf149 (by decide)]; exact hx139
    refine tt_k 6 (S' := (203, [some (.inr (.inl 17)), some (.inr (.inl 27)), some (.inl r4), some (.inl (r17 - 1)), some (.inl r21), some (.inl r44), some (.inl r67), some (.inl r90), some (.inl x123)], [], n140, D141, (us (us s142 1705 1) 1706 r90), p143, c144)) rfl ?_
    have hpn : x123 = qP A (s 2001) := by omega
    have hnm := i131
    have hnk := i133
    rw [hpn] at hnm hnk
    exact tt_rtv rfl rfl (Or.inl ⟨n140, D141, (us (us s142 1705 1) 1706 r90), p143, c144, rfl, rfl, (bS_us (bS_us hS142 (show 0 ≤ 1 ∧ 1 ≤ 1 by omega)) (show 0 ≤ r90 ∧ r90 ≤ 3 by omega)), hC144, (wp_us (by decide) (wp_us (by decide) hW145)), (fr_us (by decide) (fr_us (by decide) (fr_tr (fr_tr (fr_tr (fr_tr (fr_tr (fr_tr (fr_tr fr_rf f6 (by decide)) f23 (by decide)) f46 (by decide)) f69 (by decide)) f92 (by decide)) f127 (by decide)) f146 (by decide)))), (frp_tr frp_rf g147 (by decide)), (ext_tr ext_rf xe148), FK155, ⟨by omega, by omega, by omega, by omega, by omega, by omega, hnm⟩, by show (s142 2001) = s 2001 + 8 + 3 * qP A (s 2001); omega, by show (s142 2001) ≤ s 601; omega, by show ((s142 2700) = qW A (s 2001) ∧ (s142 2701) = qH A (s 2001)) ∧ ((s142 2702) = qP A (s 2001) ∧ (s142 2703) = qD A (s 2001)); omega, by show 1 = 1 ∧ r90 = qP A (s 2001); omega, fun j h1 h2 => by rw [fk_c (k := 19) kf149 (by decide)]; exact hnk j h1 h2⟩)
  refine tb_ne (x := r4) (y := r112) rfl rfl (by omega) (fun h165 => ?_) (fun h165 => ?_)
  · show tt Zi d 80 (136, [some (.inr (.inl 17)), some (.inr (.inl 27)), some (.inl r4), some (.inl (r17 - 1)), some (.inl r21), some (.inl r44), some (.inl r67), some (.inl r90), none], [.inr (.inl 17)], n, D, s89, p, c) _
    refine tt_k 1 (S' := (137, [some (.inr (.inl 17)), some (.inr (.inl 27)), some (.inl r4), some (.inl (r17 - 1)), some (.inl r21), some (.inl r44), some (.inl r67), some (.inl r90), none], [.inl 0, .inr (.inl 17)], n, D, s89, p, c)) rfl ?_
    exact K116 0  (by omega) (by omega) (trivial)
  · show tt Zi d 80 (132, [some (.inr (.inl 17)), some (.inr (.inl 27)), some (.inl r4), some (.inl (r17 - 1)), some (.inl r21), some (.inl r44), some (.inl r67), some (.inl r90), none], [.inr (.inl 17)], n, D, s89, p, c) _
    refine tt_k 2 (S' := (137, [some (.inr (.inl 17)), some (.inr (.inl 27)), some (.inl r4), some (.inl (r17 - 1)), some (.inl r21), some (.inl r44), some (.inl r67), some (.inl r90), none], [.inl 1, .inr (.inl 17)], n, D, s89, p, c)) rfl ?_
    exact K116 1  (by omega) (by omega) (trivial)
