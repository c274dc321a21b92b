/-! the class reads a row into one picture -/
set_option maxRecDepth 100000 in
set_option maxHeartbeats 4000000 in
theorem g_readFrame25_L144 {g : Nat → Int} {Zi : Nat → Option (Nat × (Nat → Int))} {d n q : Nat} {D : Nat → Nat × Nat} {s : Nat → Int} {p : Nat → Nat} {c : Nat → Nat → Int}  {Q : mi_Rs → mi_H → Prop} (hd : 6 ≤ d) (hz : zk Zi) (hq : q + 12 ≤ 400001) (hD : wd n p) (hS : bS s) (hC : bC D c) (hW : wp q g n D p s) (ln_ : Int) (lp_ : Int) (dp_ : Int) (hg : Int) (wd : Int) (pl_ : Int) (b_ln_ : -2147483648 ≤ ln_ ∧ ln_ ≤ 2147483647) (b_lp_ : -2147483648 ≤ lp_ ∧ lp_ ≤ 2147483647) (b_dp_ : -2147483648 ≤ dp_ ∧ dp_ ≤ 2147483647) (b_hg : -2147483648 ≤ hg ∧ hg ≤ 2147483647) (b_wd : -2147483648 ≤ wd ∧ wd ≤ 2147483647) (b_pl_ : 0 ≤ pl_ ∧ pl_ ≤ 3) (hX12 : ∀ H, cX (q + 1) g s p c [19, 2504] LXR H → Q (.inr 12) H)
  (hK : ∀ (pn : Int) (s0 : Nat → Int) (c0 : Nat → Nat → Int) (b_pn : 0 ≤ pn ∧ pn ≤ 3) (hS0 : bS s0) (hF0 : fr s s0 [2001]) (hC0 : bC D c0) (hW0 : wp q g n D p s0) (hK0 : fk p c n p c0 [19, 2504]) (i0 : pn ≤ pl_), (True) → tt Zi d 80 (180, [some (.inr (.inl 17)), some (.inr (.inl 25)), some (.inl ln_), some (.inl lp_), some (.inl dp_), some (.inl hg), some (.inl wd), some (.inl pl_), some (.inl pn)], [], n, D, s0, p, c0) Q) :
  ∀ (m : Nat) (pn : Int) (s0 : Nat → Int) (c0 : Nat → Nat → Int) (b_pn : 0 ≤ pn ∧ pn ≤ 3) (hS0 : bS s0) (hF0 : fr s s0 [2001]) (hC0 : bC D c0) (hW0 : wp q g n D p s0) (hK0 : fk p c n p c0 [19, 2504]) (i0 : pn ≤ pl_), (pl_ - pn).toNat < m → tt Zi d 80 (144, [some (.inr (.inl 17)), some (.inr (.inl 25)), some (.inl ln_), some (.inl lp_), some (.inl dp_), some (.inl hg), some (.inl wd), some (.inl pl_), some (.inl pn)], [], n, D, s0, p, c0) Q := by
  intro m
  induction m with
  | zero => intro pn s0 c0 b_pn hS0 hF0 hC0 hW0 hK0 i0 hm; exact absurd hm (by omega)
  | succ m ih =>
    intro pn s0 c0 b_pn hS0 hF0 hC0 hW0 hK0 i0 hm
    have e1 : s0 601 = s 601 := hF0 601 (by decide)
    have b2 : 0 ≤ (s0 601) ∧ (s0 601) ≤ 32768 := hS0 601
    have b3 : 0 ≤ (s 601) ∧ (s 601) ≤ 32768 := hS 601
    refine tt_k 2 (S' := (148, [some (.inr (.inl 17)), some (.inr (.inl 25)), some (.inl ln_), some (.inl lp_), some (.inl dp_), some (.inl hg), some (.inl wd), some (.inl pl_), some (.inl pn)], [.inl pl_, .inl pn], n, D, s0, p, c0)) rfl ?_
    refine tb_ge (x := pn) (y := pl_) rfl rfl (by omega) (fun h4 => ?_) (fun h4 => ?_)
    · show tt Zi d 80 (180, [some (.inr (.inl 17)), some (.inr (.inl 25)), some (.inl ln_), some (.inl lp_), some (.inl dp_), some (.inl hg), some (.inl wd), some (.inl pl_), some (.inl pn)], [], n, D, s0, p, c0) _
      exact hK pn s0 c0 (by omega) hS0 hF0 hC0 hW0 hK0 (show pn ≤ pl_ by omega) trivial
    · show tt Zi d 80 (151, [some (.inr (.inl 17)), some (.inr (.inl 25)), some (.inl ln_), some (.inl lp_), some (.inl dp_), some (.inl hg), some (.inl wd), some (.inl pl_), some (.inl pn)], [], n, D, s0, p, c0) _
      refine tt_k 2 (S' := (154, [some (.inr (.inl 17)), some (.inr (.inl 25)), some (.inl ln_), some (.inl lp_), some (.inl dp_), some (.inl hg), some (.inl wd), some (.inl pl_), some (.inl pn)], [.inl pn, .inr (.inl 17)], n, D, s0, p, c0)) rfl ?_
      refine tt_cl (by omega) rfl (g_readName (Zi := Zi) (q := q) (n := n) (D := D) (s := s0) (p := p) (c := c0) (by omega) hz (by omega) hK0.1 hS0 hC0 hW0 pn (by omega)) ?_
      rintro _ H1 (⟨s5, c6, rfl, rfl, hS5, hC6, hW7, f8, kf9, k10⟩ | ⟨rfl, hY11⟩)
      rotate_left
      · exact tt_ax rfl (hX12 _ (cX_mono (cX_trx hK0 (fr_wk (show fr s s0 [2001] from hF0) (by decide)) hY11 (by decide)) (by omega)))
      have FK12 : fk p c n p c6 [19, 2504] := fk_tr hK0 kf9 (by decide)
      show tt Zi d 80 (157, [some (.inr (.inl 17)), some (.inr (.inl 25)), some (.inl ln_), some (.inl lp_), some (.inl dp_), some (.inl hg), some (.inl wd), some (.inl pl_), some (.inl pn)], [], n, D, s5, p, c6) _
      replace k10 : 1 ≤ (s5 2001) ∧ (s5 2001) ≤ (s0 601) := k10
      have b13 : 0 ≤ (s5 2001) ∧ (s5 2001) ≤ 100000 := hS5 2001
      have e14 : s5 601 = (s0 601) := (f8 601 (by decide))
      have b15 : 0 ≤ (s5 601) ∧ (s5 601) ≤ 32768 := hS5 601
      refine tt_k 3 (S' := (163, [some (.inr (.inl 17)), some (.inr (.inl 25)), some (.inl ln_), some (.inl lp_), some (.inl dp_), some (.inl hg), some (.inl wd), some (.inl pl_), some (.inl pn)], [.inl 17, .inr (.inl 20)], n, D, s5, p, c6)) rfl ?_
      refine tt_cl (by omega) rfl (g_expect (Zi := Zi) (q := q) (n := n) (D := D) (s := s5) (p := p) (c := c6) (by omega) hz (by omega) FK12.1 hS5 hC6 hW7 17 (by omega)) ?_
      rintro _ H1 (⟨s16, rfl, rfl, hS16, hW17, f18, k19, k20⟩ | ⟨rfl, hY21⟩)
      rotate_left
      · exact tt_ax rfl (hX12 _ (cX_mono (cX_trx FK12 (fr_wk (show fr s s5 [2001] from (fr_tr hF0 f8 (by decide))) (by decide)) hY21 (by decide)) (by omega)))
      show tt Zi d 80 (166, [some (.inr (.inl 17)), some (.inr (.inl 25)), some (.inl ln_), some (.inl lp_), some (.inl dp_), some (.inl hg), some (.inl wd), some (.inl pl_), some (.inl pn)], [], n, D, s16, p, c6) _
      replace k19 : (s16 2001) = (s5 2001) + 1 := k19
      replace k20 : (s16 2001) ≤ (s5 601) := k20
      have b22 : 0 ≤ (s16 2001) ∧ (s16 2001) ≤ 100000 := hS16 2001
      have e23 : s16 601 = (s5 601) := (f18 601 (by decide))
      have b24 : 0 ≤ (s16 601) ∧ (s16 601) ≤ 32768 := hS16 601
      refine tt_k 3 (S' := (171, [some (.inr (.inl 17)), some (.inr (.inl 25)), some (.inl ln_), some (.inl lp_), some (.inl dp_), some (.inl hg), some (.inl wd), some (.inl pl_), some (.inl pn)], [.inl 0, .inr (.inl 20)], n, D, s16, p, c6)) rfl ?_
      refine tt_cl (by omega) rfl (g_expect (Zi := Zi) (q := q) (n := n) (D := D) (s := s16) (p := p) (c := c6) (by omega) hz (by omega) FK12.1 hS16 hC6 hW17 0 (by omega)) ?_
      rintro _ H1 (⟨s25, rfl, rfl, hS25, hW26, f27, k28, k29⟩ | ⟨rfl, hY30⟩)
      rotate_left
      · exact tt_ax rfl (hX12 _ (cX_mono (cX_trx FK12 (fr_wk (show fr s s16 [2001] from (fr_tr (fr_tr hF0 f8 (by decide)) f18 (by decide))) (by decide)) hY30 (by decide)) (by omega)))
      show tt Zi d 80 (174, [some (.inr (.inl 17)), some (.inr (.inl 25)), some (.inl ln_), some (.inl lp_), some (.inl dp_), some (.inl hg), some (.inl wd), some (.inl pl_), some (.inl pn)], [], n, D, s25, p, c6) _
      replace k28 : (s25 2001) = (s16 2001) + 1 := k28
      replace k29 : (s25 2001) ≤ (s16 601) := k29
      have b31 : 0 ≤ (s25 2001) ∧ (s25 2001) ≤ 100000 := hS25 2001
      have e32 : s25 601 = (s16 601) := (f27 601 (by decide))
      have b33 : 0 ≤ (s25 601) ∧ (s25 601) ≤ 32768 := hS25 601
      refine tt_k 2 (S' := (144, [some (.inr (.inl 17)), some (.inr (.inl 25)), some (.inl ln_), some (.inl lp_), some (.inl dp_), some (.inl hg), some (.inl wd), some (.inl pl_), some (.inl (pn + 1))], [], n, D, s25, p, c6)) rfl ?_
      exact ih (pn + 1) s25 c6 (by omega) hS25 (fr_tr (fr_tr (fr_tr hF0 f8 (by decide)) f18 (by decide)) f27 (by decide)) hC6 hW26 FK12 (show (pn + 1) ≤ pl_ by omega) (show (pl_ - (pn + 1)).toNat < m by omega)
set_option maxRecDepth 100000 in
set_option maxHeartbeats 4000000 in
theorem g_readFrame25 {g : Nat → Int} {Zi : Nat → Option (Nat × (Nat → Int))} {d n q : Nat} {D : Nat → Nat × Nat} {s : Nat → Int} {p : Nat → Nat} {c : Nat → Nat → Int} (hd : 6 ≤ d) (hz : zk Zi) (hq : q + 12 ≤ 400000) (hD : wd n p) (hS : bS s) (hC : bC D c) (hW : wp q g n D p s)  : tt Zi d 80 (0, [some (.inr (.inl 17)), some (.inr (.inl 25)), none, none, none, none, none, none, none], [], n, D, s, p, c) (fun R H => (∃ (n' : Nat) (D' : Nat → Nat × Nat) (s' : Nat → Int) (p' : Nat → Nat) (c' : Nat → Nat → Int), R = .inl none ∧ H = (n', D', s', p', c') ∧ bS s' ∧ bC D' c' ∧ wp q g n' D' p' s' ∧ fr s s' [1705, 1706, 2001, 2500, 2501, 2502, 2503] ∧ frp p p' [2504] ∧ ext n D n' D' ∧ fk p c n' p' c' [19, 2504] ∧ (1 ≤ s' 2500 ∧ 2 ≤ s' 2503 ∧ s' 1706 ≤ s' 2502)) ∨ (R = .inr 12 ∧ cX ((q + 1)) g s p c [19, 2504] LXR H)) := by
  refine tt_k 2 (S' := (4, [some (.inr (.inl 17)), some (.inr (.inl 25)), none, none, none, none, none, none, none], [.inr (.inl 20)], n, D, s, p, c)) rfl ?_
  refine tt_cl (by omega) rfl (g_readTwo (Zi := Zi) (q := q) (n := n) (D := D) (s := s) (p := p) (c := c) (by omega) hz (by omega) hD hS hC hW ) ?_
  rintro _ H1 (⟨s1, r2, rfl, rfl, hS1, hW3, f4, b5, k6, k7⟩ | ⟨rfl, hY8⟩)
  rotate_left
  · exact tt_ax rfl (Or.inr ⟨rfl, cX_mono (cX_trx (fk_rf hD) (show fr s s LXR from fr_rf) hY8 (by decide)) (by omega)⟩)
  show tt Zi d 80 (7, [some (.inr (.inl 17)), some (.inr (.inl 25)), none, none, none, none, none, none, none], [.inl r2], n, D, s1, p, c) _
  replace k6 : (s1 2001) = (s 2001) + 2 := k6
  replace k7 : (s1 2001) ≤ (s 601) := k7
  have b9 : 0 ≤ (s 2001) ∧ (s 2001) ≤ 100000 := hS 2001
  have b10 : 0 ≤ (s1 2001) ∧ (s1 2001) ≤ 100000 := hS1 2001
  have b11 : 0 ≤ (s 601) ∧ (s 601) ≤ 32768 := hS 601
  have e12 : s1 601 = (s 601) := (f4 601 (by decide))
  have b13 : 0 ≤ (s1 601) ∧ (s1 601) ≤ 32768 := hS1 601
  refine tt_k 3 (S' := (12, [some (.inr (.inl 17)), some (.inr (.inl 25)), some (.inl r2), none, none, none, none, none, none], [.inr (.inl 20)], n, D, s1, p, c)) rfl ?_
  refine tt_cl (by omega) rfl (g_openPlace (Zi := Zi) (q := q) (n := n) (D := D) (s := s1) (p := p) (c := c) (by omega) hz (by omega) hD hS1 hC hW3 ) ?_
  rintro _ _ ⟨r14, rfl, rfl, b15, k16⟩
  show tt Zi d 80 (15, [some (.inr (.inl 17)), some (.inr (.inl 25)), some (.inl r2), none, none, none, none, none, none], [.inl r14], n, D, s1, p, c) _
  replace k16 : r14 = (s1 2001) - 1 := k16
  refine tt_k 5 (S' := (22, [some (.inr (.inl 17)), some (.inr (.inl 25)), some (.inl r2), some (.inl (r14 - 1)), none, none, none, none, none], [.inr (.inl 20)], n, D, s1, p, c)) rfl ?_
  refine tt_cl (by omega) rfl (g_readByte (Zi := Zi) (q := q) (n := n) (D := D) (s := s1) (p := p) (c := c) (by omega) hz (by omega) hD hS1 hC hW3 ) ?_
  rintro _ H1 (⟨s17, r18, rfl, rfl, hS17, hW19, f20, b21, k22, k23⟩ | ⟨rfl, hY24⟩)
  rotate_left
  · exact tt_ax rfl (Or.inr ⟨rfl, cX_mono (cX_trx (fk_rf hD) (show fr s s1 LXR from (fr_tr fr_rf f4 (by decide))) hY24 (by decide)) (by omega)⟩)
  show tt Zi d 80 (25, [some (.inr (.inl 17)), some (.inr (.inl 25)), some (.inl r2), some (.inl (r14 - 1)), none, none, none, none, none], [.inl r18], n, D, s17, p, c) _
  replace k22 : (s17 2001) = (s1 2001) + 1 := k22
  replace k23 : (s17 2001) ≤ (s1 601) := k23
  have b25 : 0 ≤ (s17 2001) ∧ (s17 2001) ≤ 100000 := hS17 2001
  have e26 : s17 601 = (s1 601) := (f20 601 (by decide))
  have b27 : 0 ≤ (s17 601) ∧ (s17 601) ≤ 32768 := hS17 601
  refine tt_k 3 (S' := (30, [some (.inr (.inl 17)), some (.inr (.inl 25)), some (.inl r2), some (.inl (r14 - 1)), some (.inl r18), none, none, none, none], [.inl r18, .inr (.inl 17)], n, D, s17, p, c)) rfl ?_
  refine tt_cl (by omega) rfl (g_isDepth (Zi := Zi) (q := q) (n := n) (D := D) (s := s17) (p := p) (c := c) (by omega) hz (by omega) hD hS17 hC hW19 r18 (by omega)) ?_
  rintro _ _ ⟨r28, rfl, rfl, b29, k30⟩
  show tt Zi d 80 (33, [some (.inr (.inl 17)), some (.inr (.inl 25)), some (.inl r2), some (.inl (r14 - 1)), some (.inl r18), none, none, none, none], [.inl r28, .inr (.inl 17)], n, D, s17, p, c) _
  replace k30 : r28 = 1 ↔ (2 ≤ r18 ∧ r18 ≤ 16) := k30
  refine tt_k 2 (S' := (37, [some (.inr (.inl 17)), some (.inr (.inl 25)), some (.inl r2), some (.inl (r14 - 1)), some (.inl r18), none, none, none, none], [.inr (.inl 20), .inl r28, .inr (.inl 17)], n, D, s17, p, c)) rfl ?_
  refine tt_cl (by omega) rfl (g_openPlace (Zi := Zi) (q := q) (n := n) (D := D) (s := s17) (p := p) (c := c) (by omega) hz (by omega) hD hS17 hC hW19 ) ?_
  rintro _ _ ⟨r31, rfl, rfl, b32, k33⟩
  show tt Zi d 80 (40, [some (.inr (.inl 17)), some (.inr (.inl 25)), some (.inl r2), some (.inl (r14 - 1)), some (.inl r18), none, none, none, none], [.inl r31, .inl r28, .inr (.inl 17)], n, D, s17, p, c) _
  replace k33 : r31 = (s17 2001) - 1 := k33
  refine tt_cl (by omega) rfl (g_checkContent (Zi := Zi) (q := q) (n := n) (D := D) (s := s17) (p := p) (c := c) (by omega) hz (by omega) hD hS17 hC hW19 r28 r31 (by omega) (by omega)) ?_
  rintro _ H1 (⟨rfl, rfl, k34⟩ | ⟨rfl, hY35⟩)
  rotate_left
  · exact tt_ax rfl (Or.inr ⟨rfl, cX_mono (cX_trx (fk_rf hD) (show fr s s17 LXR from (fr_tr (fr_tr fr_rf f4 (by decide)) f20 (by decide))) hY35 (by decide)) (by omega)⟩)
  show tt Zi d 80 (43, [some (.inr (.inl 17)), some (.inr (.inl 25)), some (.inl r2), some (.inl (r14 - 1)), some (.inl r18), none, none, none, none], [], n, D, s17, p, c) _
  replace k34 : r28 = 1 := k34
  refine tt_k 2 (S' := (47, [some (.inr (.inl 17)), some (.inr (.inl 25)), some (.inl r2), some (.inl (r14 - 1)), some (.inl r18), none, none, none, none], [.inr (.inl 20)], n, D, s17, p, c)) rfl ?_
  refine tt_cl (by omega) rfl (g_readTwo (Zi := Zi) (q := q) (n := n) (D := D) (s := s17) (p := p) (c := c) (by omega) hz (by omega) hD hS17 hC hW19 ) ?_
  rintro _ H1 (⟨s36, r37, rfl, rfl, hS36, hW38, f39, b40, k41, k42⟩ | ⟨rfl, hY43⟩)
  rotate_left
  · exact tt_ax rfl (Or.inr ⟨rfl, cX_mono (cX_trx (fk_rf hD) (show fr s s17 LXR from (fr_tr (fr_tr fr_rf f4 (by decide)) f20 (by decide))) hY43 (by decide)) (by omega)⟩)
  show tt Zi d 80 (50, [some (.inr (.inl 17)), some (.inr (.inl 25)), some (.inl r2), some (.inl (r14 - 1)), some (.inl r18), none, none, none, none], [.inl r37], n, D, s36, p, c) _
  replace k41 : (s36 2001) = (s17 2001) + 2 := k41
  replace k42 : (s36 2001) ≤ (s17 601) := k42
  have b44 : 0 ≤ (s36 2001) ∧ (s36 2001) ≤ 100000 := hS36 2001
  have e45 : s36 601 = (s17 601) := (f39 601 (by decide))
  have b46 : 0 ≤ (s36 601) ∧ (s36 601) ≤ 32768 := hS36 601
  refine tt_k 3 (S' := (55, [some (.inr (.inl 17)), some (.inr (.inl 25)), some (.inl r2), some (.inl (r14 - 1)), some (.inl r18), some (.inl r37), none, none, none], [.inl r37, .inr (.inl 17)], n, D, s36, p, c)) rfl ?_
  refine tt_cl (by omega) rfl (g_isSide (Zi := Zi) (q := q) (n := n) (D := D) (s := s36) (p := p) (c := c) (by omega) hz (by omega) hD hS36 hC hW38 r37 (by omega)) ?_
  rintro _ _ ⟨r47, rfl, rfl, b48, k49⟩
  show tt Zi d 80 (58, [some (.inr (.inl 17)), some (.inr (.inl 25)), some (.inl r2), some (.inl (r14 - 1)), some (.inl r18), some (.inl r37), none, none, none], [.inl r47, .inr (.inl 17)], n, D, s36, p, c) _
  replace k49 : r47 = 1 ↔ (1 ≤ r37 ∧ r37 ≤ 64) := k49
  refine tt_k 2 (S' := (62, [some (.inr (.inl 17)), some (.inr (.inl 25)), some (.inl r2), some (.inl (r14 - 1)), some (.inl r18), some (.inl r37), none, none, none], [.inr (.inl 20), .inl r47, .inr (.inl 17)], n, D, s36, p, c)) rfl ?_
  refine tt_cl (by omega) rfl (g_openPlace (Zi := Zi) (q := q) (n := n) (D := D) (s := s36) (p := p) (c := c) (by omega) hz (by omega) hD hS36 hC hW38 ) ?_
  rintro _ _ ⟨r50, rfl, rfl, b51, k52⟩
  show tt Zi d 80 (65, [some (.inr (.inl 17)), some (.inr (.inl 25)), some (.inl r2), some (.inl (r14 - 1)), some (.inl r18), some (.inl r37), none, none, none], [.inl r50, .inl r47, .inr (.inl 17)], n, D, s36, p, c) _
  replace k52 : r50 = (s36 2001) - 1 := k52
  refine tt_k 2 (S' := (67, [some (.inr (.inl 17)), some (.inr (.inl 25)), some (.inl r2), some (.inl (r14 - 1)), some (.inl r18), some (.inl r37), none, none, none], [.inl (r50 - 1), .inl r47, .inr (.inl 17)], n, D, s36, p, c)) rfl ?_
  refine tt_cl (by omega) rfl (g_checkContent (Zi := Zi) (q := q) (n := n) (D := D) (s := s36) (p := p) (c := c) (by omega) hz (by omega) hD hS36 hC hW38 r47 (r50 - 1) (by omega) (by omega)) ?_
  rintro _ H1 (⟨rfl, rfl, k53⟩ | ⟨rfl, hY54⟩)
  rotate_left
  · exact tt_ax rfl (Or.inr ⟨rfl, cX_mono (cX_trx (fk_rf hD) (show fr s s36 LXR from (fr_tr (fr_tr (fr_tr fr_rf f4 (by decide)) f20 (by decide)) f39 (by decide))) hY54 (by decide)) (by omega)⟩)
  show tt Zi d 80 (70, [some (.inr (.inl 17)), some (.inr (.inl 25)), some (.inl r2), some (.inl (r14 - 1)), some (.inl r18), some (.inl r37), none, none, none], [], n, D, s36, p, c) _
  replace k53 : r47 = 1 := k53
  refine tt_k 2 (S' := (74, [some (.inr (.inl 17)), some (.inr (.inl 25)), some (.inl r2), some (.inl (r14 - 1)), some (.inl r18), some (.inl r37), none, none, none], [.inr (.inl 20)], n, D, s36, p, c)) rfl ?_
  refine tt_cl (by omega) rfl (g_readTwo (Zi := Zi) (q := q) (n := n) (D := D) (s := s36) (p := p) (c := c) (by omega) hz (by omega) hD hS36 hC hW38 ) ?_
  rintro _ H1 (⟨s55, r56, rfl, rfl, hS55, hW57, f58, b59, k60, k61⟩ | ⟨rfl, hY62⟩)
  rotate_left
  · exact tt_ax rfl (Or.inr ⟨rfl, cX_mono (cX_trx (fk_rf hD) (show fr s s36 LXR from (fr_tr (fr_tr (fr_tr fr_rf f4 (by decide)) f20 (by decide)) f39 (by decide))) hY62 (by decide)) (by omega)⟩)
  show tt Zi d 80 (77, [some (.inr (.inl 17)), some (.inr (.inl 25)), some (.inl r2), some (.inl (r14 - 1)), some (.inl r18), some (.inl r37), none, none, none], [.inl r56], n, D, s55, p, c) _
  replace k60 : (s55 2001) = (s36 2001) + 2 := k60
  replace k61 : (s55 2001) ≤ (s36 601) := k61
  have b63 : 0 ≤ (s55 2001) ∧ (s55 2001) ≤ 100000 := hS55 2001
  have e64 : s55 601 = (s36 601) := (f58 601 (by decide))
  have b65 : 0 ≤ (s55 601) ∧ (s55 601) ≤ 32768 := hS55 601
  refine tt_k 3 (S' := (82, [some (.inr (.inl 17)), some (.inr (.inl 25)), some (.inl r2), some (.inl (r14 - 1)), some (.inl r18), some (.inl r37), some (.inl r56), none, none], [.inl r56, .inr (.inl 17)], n, D, s55, p, c)) rfl ?_
  refine tt_cl (by omega) rfl (g_isSide (Zi := Zi) (q := q) (n := n) (D := D) (s := s55) (p := p) (c := c) (by omega) hz (by omega) hD hS55 hC hW57 r56 (by omega)) ?_
  rintro _ _ ⟨r66, rfl, rfl, b67, k68⟩
  show tt Zi d 80 (85, [some (.inr (.inl 17)), some (.inr (.inl 25)), some (.inl r2), some (.inl (r14 - 1)), some (.inl r18), some (.inl r37), some (.inl r56), none, none], [.inl r66, .inr (.inl 17)], n, D, s55, p, c) _
  replace k68 : r66 = 1 ↔ (1 ≤ r56 ∧ r56 ≤ 64) := k68
  refine tt_k 2 (S' := (89, [some (.inr (.inl 17)), some (.inr (.inl 25)), some (.inl r2), some (.inl (r14 - 1)), some (.inl r18), some (.inl r37), some (.inl r56), none, none], [.inr (.inl 20), .inl r66, .inr (.inl 17)], n, D, s55, p, c)) rfl ?_
  refine tt_cl (by omega) rfl (g_openPlace (Zi := Zi) (q := q) (n := n) (D := D) (s := s55) (p := p) (c := c) (by omega) hz (by omega) hD hS55 hC hW57 ) ?_
  rintro _ _ ⟨r69, rfl, rfl, b70, k71⟩
  show tt Zi d 80 (92, [some (.inr (.inl 17)), some (.inr (.inl 25)), some (.inl r2), some (.inl (r14 - 1)), some (.inl r18), some (.inl r37), some (.inl r56), none, none], [.inl r69, .inl r66, .inr (.inl 17)], n, D, s55, p, c) _
  replace k71 : r69 = (s55 2001) - 1 := k71
  refine tt_k 2 (S' := (94, [some (.inr (.inl 17)), some (.inr (.inl 25)), some (.inl r2), some (.inl (r14 - 1)), some (.inl r18), some (.inl r37), some (.inl r56), none, none], [.inl (r69 - 1), .inl r66, .inr (.inl 17)], n, D, s55, p, c)) rfl ?_
  refine tt_cl (by omega) rfl (g_checkContent (Zi := Zi) (q := q) (n := n) (D := D) (s := s55) (p := p) (c := c) (by omega) hz (by omega) hD hS55 hC hW57 r66 (r69 - 1) (by omega) (by omega)) ?_
  rintro _ H1 (⟨rfl, rfl, k72⟩ | ⟨rfl, hY73⟩)
  rotate_left
  · exact tt_ax rfl (Or.inr ⟨rfl, cX_mono (cX_trx (fk_rf hD) (show fr s s55 LXR from (fr_tr (fr_tr (fr_tr (fr_tr fr_rf f4 (by decide)) f20 (by decide)) f39 (by decide)) f58 (by decide))) hY73 (by decide)) (by omega)⟩)
  show tt Zi d 80 (97, [some (.inr (.inl 17)), some (.inr (.inl 25)), some (.inl r2), some (.inl (r14 - 1)), some (.inl r18), some (.inl r37), some (.inl r56), none, none], [], n, D, s55, p, c) _
  replace k72 : r66 = 1 := k72
  refine tt_k 2 (S' := (101, [some (.inr (.inl 17)), some (.inr (.inl 25)), some (.inl r2), some (.inl (r14 - 1)), some (.inl r18), some (.inl r37), some (.inl r56), none, none], [.inr (.inl 20)], n, D, s55, p, c)) rfl ?_
  refine tt_cl (by omega) rfl (g_readByte (Zi := Zi) (q := q) (n := n) (D := D) (s := s55) (p := p) (c := c) (by omega) hz (by omega) hD hS55 hC hW57 ) ?_
  rintro _ H1 (⟨s74, r75, rfl, rfl, hS74, hW76, f77, b78, k79, k80⟩ | ⟨rfl, hY81⟩)
  rotate_left
  · exact tt_ax rfl (Or.inr ⟨rfl, cX_mono (cX_trx (fk_rf hD) (show fr s s55 LXR from (fr_tr (fr_tr (fr_tr (fr_tr fr_rf f4 (by decide)) f20 (by decide)) f39 (by decide)) f58 (by decide))) hY81 (by decide)) (by omega)⟩)
  show tt Zi d 80 (104, [some (.inr (.inl 17)), some (.inr (.inl 25)), some (.inl r2), some (.inl (r14 - 1)), some (.inl r18), some (.inl r37), some (.inl r56), none, none], [.inl r75], n, D, s74, p, c) _
  replace k79 : (s74 2001) = (s55 2001) + 1 := k79
  replace k80 : (s74 2001) ≤ (s55 601) := k80
  have b82 : 0 ≤ (s74 2001) ∧ (s74 2001) ≤ 100000 := hS74 2001
  have e83 : s74 601 = (s55 601) := (f77 601 (by decide))
  have b84 : 0 ≤ (s74 601) ∧ (s74 601) ≤ 32768 := hS74 601
  refine tt_k 3 (S' := (109, [some (.inr (.inl 17)), some (.inr (.inl 25)), some (.inl r2), some (.inl (r14 - 1)), some (.inl r18), some (.inl r37), some (.inl r56), some (.inl r75), none], [.inl r75, .inr (.inl 17)], n, D, s74, p, c)) rfl ?_
  refine tt_cl (by omega) rfl (g_isPC (Zi := Zi) (q := q) (n := n) (D := D) (s := s74) (p := p) (c := c) (by omega) hz (by omega) hD hS74 hC hW76 r75 (by omega)) ?_
  rintro _ _ ⟨r85, rfl, rfl, b86, k87⟩
  show tt Zi d 80 (112, [some (.inr (.inl 17)), some (.inr (.inl 25)), some (.inl r2), some (.inl (r14 - 1)), some (.inl r18), some (.inl r37), some (.inl r56), some (.inl r75), none], [.inl r85, .inr (.inl 17)], n, D, s74, p, c) _
  replace k87 : r85 = 1 ↔ (r75 = 1 ∨ r75 = 3) := k87
  refine tt_k 2 (S' := (116, [some (.inr (.inl 17)), some (.inr (.inl 25)), some (.inl r2), some (.inl (r14 - 1)), some (.inl r18), some (.inl r37), some (.inl r56), some (.inl r75), none], [.inr (.inl 20), .inl r85, .inr (.inl 17)], n, D, s74, p, c)) rfl ?_
  refine tt_cl (by omega) rfl (g_openPlace (Zi := Zi) (q := q) (n := n) (D := D) (s := s74) (p := p) (c := c) (by omega) hz (by omega) hD hS74 hC hW76 ) ?_
  rintro _ _ ⟨r88, rfl, rfl, b89, k90⟩
  show tt Zi d 80 (119, [some (.inr (.inl 17)), some (.inr (.inl 25)), some (.inl r2), some (.inl (r14 - 1)), some (.inl r18), some (.inl r37), some (.inl r56), some (.inl r75), none], [.inl r88, .inl r85, .inr (.inl 17)], n, D, s74, p, c) _
  replace k90 : r88 = (s74 2001) - 1 := k90
  refine tt_cl (by omega) rfl (g_checkContent (Zi := Zi) (q := q) (n := n) (D := D) (s := s74) (p := p) (c := c) (by omega) hz (by omega) hD hS74 hC hW76 r85 r88 (by omega) (by omega)) ?_
  rintro _ H1 (⟨rfl, rfl, k91⟩ | ⟨rfl, hY92⟩)
  rotate_left
  · exact tt_ax rfl (Or.inr ⟨rfl, cX_mono (cX_trx (fk_rf hD) (show fr s s74 LXR from (fr_tr (fr_tr (fr_tr (fr_tr (fr_tr fr_rf f4 (by decide)) f20 (by decide)) f39 (by decide)) f58 (by decide)) f77 (by decide))) hY92 (by decide)) (by omega)⟩)
  show tt Zi d 80 (122, [some (.inr (.inl 17)), some (.inr (.inl 25)), some (.inl r2), some (.inl (r14 - 1)), some (.inl r18), some (.inl r37), some (.inl r56), some (.inl r75), none], [], n, D, s74, p, c) _
  replace k91 : r85 = 1 := k91
  refine tt_k 3 (S' := (126, [some (.inr (.inl 17)), some (.inr (.inl 25)), some (.inl r2), some (.inl (r14 - 1)), some (.inl r18), some (.inl r37), some (.inl r56), some (.inl r75), none], [.inl r75, .inl r2, .inr (.inl 17)], n, D, s74, p, c)) rfl ?_
  refine tt_cl (by omega) rfl (g_frameLength (Zi := Zi) (q := q) (n := n) (D := D) (s := s74) (p := p) (c := c) (by omega) hz (by omega) hD hS74 hC hW76 r75 (by omega)) ?_
  rintro _ _ ⟨r93, rfl, rfl, b94, k95⟩
  show tt Zi d 80 (129, [some (.inr (.inl 17)), some (.inr (.inl 25)), some (.inl r2), some (.inl (r14 - 1)), some (.inl r18), some (.inl r37), some (.inl r56), some (.inl r75), none], [.inl r93, .inl r2, .inr (.inl 17)], n, D, s74, p, c) _
  replace k95 : r93 = 8 + 3 * r75 := k95
  have K97 : ∀ (j96 : Int) , (0 ≤ j96 ∧ j96 ≤ 1) → (True) → tt Zi d 80 (137, [some (.inr (.inl 17)), some (.inr (.inl 25)), some (.inl r2), some (.inl (r14 - 1)), some (.inl r18), some (.inl r37), some (.inl r56), some (.inl r75), none], [.inl j96, .inr (.inl 17)], n, D, s74, p, c) (fun R H => (∃ (n' : Nat) (D' : Nat → Nat × Nat) (s' : Nat → Int) (p' : Nat → Nat) (c' : Nat → Nat → Int), R = .inl none ∧ H = (n', D', s', p', c') ∧ bS s' ∧ bC D' c' ∧ wp q g n' D' p' s' ∧ fr s s' [1705, 1706, 2001, 2500, 2501, 2502, 2503] ∧ frp p p' [2504] ∧ ext n D n' D' ∧ fk p c n' p' c' [19, 2504] ∧ (1 ≤ s' 2500 ∧ 2 ≤ s' 2503 ∧ s' 1706 ≤ s' 2502)) ∨ (R = .inr 12 ∧ cX ((q + 1)) g s p c [19, 2504] LXR H)) := by
    intro j96 b99 hj98
    refine tt_k 1 (S' := (138, [some (.inr (.inl 17)), some (.inr (.inl 25)), some (.inl r2), some (.inl (r14 - 1)), some (.inl r18), some (.inl r37), some (.inl r56), some (.inl r75), none], [.inl (r14 - 1), .inl j96, .inr (.inl 17)], n, D, s74, p, c)) rfl ?_
    refine tt_cl (by omega) rfl (g_checkLength (Zi := Zi) (q := q) (n := n) (D := D) (s := s74) (p := p) (c := c) (by omega) hz (by omega) hD hS74 hC hW76 j96 (r14 - 1) (by omega) (by omega)) ?_
    rintro _ H1 (⟨rfl, rfl, k100⟩ | ⟨rfl, hY101⟩)
    rotate_left
    · exact tt_ax rfl (Or.inr ⟨rfl, cX_mono (cX_trx (fk_rf hD) (show fr s s74 LXR from (fr_tr (fr_tr (fr_tr (fr_tr (fr_tr fr_rf f4 (by decide)) f20 (by decide)) f39 (by decide)) f58 (by decide)) f77 (by decide))) hY101 (by decide)) (by omega)⟩)
    show tt Zi d 80 (141, [some (.inr (.inl 17)), some (.inr (.inl 25)), some (.inl r2), some (.inl (r14 - 1)), some (.inl r18), some (.inl r37), some (.inl r56), some (.inl r75), none], [], n, D, s74, p, c) _
    replace k100 : j96 = 1 := k100
    refine tt_k 2 (S' := (144, [some (.inr (.inl 17)), some (.inr (.inl 25)), some (.inl r2), some (.inl (r14 - 1)), some (.inl r18), some (.inl r37), some (.inl r56), some (.inl r75), some (.inl 0)], [], n, D, s74, p, c)) rfl ?_
    refine g_readFrame25_L144 (Zi := Zi) (q := q) (n := n) (D := D) (s := s74) (p := p) (c := c) hd hz (by omega) hD hS74 hC hW76  r2 (r14 - 1) r18 r37 r56 r75 (by omega) (by omega) (by omega) (by omega) (by omega) (by omega)  (fun H h => (Or.inr ⟨rfl, cX_mono (cX_trx (fk_rf hD) (show fr s s74 LXR from (fr_tr (fr_tr (fr_tr (fr_tr (fr_tr fr_rf f4 (by decide)) f20 (by decide)) f39 (by decide)) f58 (by decide)) f77 (by decide))) h (by decide)) (by omega)⟩)) ?_ _ 0 s74 c (by omega) hS74 fr_rf hC hW76 (fk_rf hD) (show 0 ≤ r75 by omega) (Nat.lt_succ_self _)
    intro x102 s103 c104 b105 hS103 f106 hC104 hW107 kf108 i109 hx110
    show tt Zi d 80 (180, [some (.inr (.inl 17)), some (.inr (.inl 25)), some (.inl r2), some (.inl (r14 - 1)), some (.inl r18), some (.inl r37), some (.inl r56), some (.inl r75), some (.inl x102)], [], n, D, s103, p, c104) _
    have FK111 : fk p c n p c104 [19, 2504] := fk_tr (fk_rf hD) kf108 (by decide)
    replace i109 : x102 ≤ r75 := i109
    have e112 : s103 601 = (s74 601) := (f106 601 (by decide))
    have b113 : 0 ≤ (s103 601) ∧ (s103 601) ≤ 32768 := hS103 601
    refine tt_k 5 (S' := (189, [some (.inr (.inl 17)), some (.inr (.inl 25)), some (.inl r2), some (.inl (r14 - 1)), some (.inl r18), some (.inl r37), some (.inl r56), some (.inl r75), some (.inl x102)], [.inl r18, .inl r75, .inl r37, .inl r56, .inr (.inl 25)], n, D, s103, p, c104)) rfl ?_
    refine tt_cl (by omega) rfl (g_reshape25 (Zi := Zi) (q := q) (n := n) (D := D) (s := s103) (p := p) (c := c104) (by omega) hz (by omega) FK111.1 hS103 hC104 hW107 r56 r37 r75 r18 (by omega) (by omega) (by omega) (by omega)) ?_
    rintro _ _ ⟨n114, D115, s116, p117, c118, rfl, rfl, hS116, hC118, hW119, f120, g121, xe122, kf123, k124, k125, k126, k127, k128⟩
    have FK129 : fk p c n114 p117 c118 [19, 2504] := fk_tr FK111 kf123 (by decide)
    show tt Zi d 80 (192, [some (.inr (.inl 17)), some (.inr (.inl 25)), some (.inl r2), some (.inl (r14 - 1)), some (.inl r18), some (.inl r37), some (.inl r56), some (.inl r75), some (.inl x102)], [], n114, D115, s116, p117, c118) _
    replace k124 : (s116 2500) = r56 := k124
    replace k125 : (s116 2501) = r37 := k125
    replace k126 : (s116 2502) = r75 := k126
    replace k127 : (s116 2503) = r18 := k127
    have b130 : 0 ≤ (s116 2500) ∧ (s116 2500) ≤ 64 := hS116 2500
    have b131 : 0 ≤ (s116 2501) ∧ (s116 2501) ≤ 64 := hS116 2501
    have b132 : 0 ≤ (s116 2502) ∧ (s116 2502) ≤ 3 := hS116 2502
    have b133 : 0 ≤ (s116 2503) ∧ (s116 2503) ≤ 16 := hS116 2503
    have e134 : s116 601 = (s103 601) := (f120 601 (by decide))
    have b135 : 0 ≤ (s116 601) ∧ (s116 601) ≤ 32768 := hS116 601
    refine tt_k 6 (S' := (203, [some (.inr (.inl 17)), some (.inr (.inl 25)), some (.inl r2), some (.inl (r14 - 1)), some (.inl r18), some (.inl r37), some (.inl r56), some (.inl r75), some (.inl x102)], [], n114, D115, (us (us s116 1705 1) 1706 r75), p117, c118)) rfl ?_
    exact tt_rtv rfl rfl (Or.inl ⟨n114, D115, (us (us s116 1705 1) 1706 r75), p117, c118, rfl, rfl, (bS_us (bS_us hS116 (show 0 ≤ 1 ∧ 1 ≤ 1 by omega)) (show 0 ≤ r75 ∧ r75 ≤ 3 by omega)), hC118, (wp_us (by decide) (wp_us (by decide) hW119)), (fr_us (by decide) (fr_us (by decide) (fr_tr (fr_tr (fr_tr (fr_tr (fr_tr (fr_tr (fr_tr fr_rf f4 (by decide)) f20 (by decide)) f39 (by decide)) f58 (by decide)) f77 (by decide)) f106 (by decide)) f120 (by decide)))), (frp_tr frp_rf g121 (by decide)), (ext_tr ext_rf xe122), FK129, by show 1 ≤ (s116 2500) ∧ 2 ≤ (s116 2503) ∧ r75 ≤ (s116 2502); omega⟩)
  refine tb_ne (x := r2) (y := r93) rfl rfl (by omega) (fun h136 => ?_) (fun h136 => ?_)
  · show tt Zi d 80 (136, [some (.inr (.inl 17)), some (.inr (.inl 25)), some (.inl r2), some (.inl (r14 - 1)), some (.inl r18), some (.inl r37), some (.inl r56), some (.inl r75), none], [.inr (.inl 17)], n, D, s74, p, c) _
    refine tt_k 1 (S' := (137, [some (.inr (.inl 17)), some (.inr (.inl 25)), some (.inl r2), some (.inl (r14 - 1)), some (.inl r18), some (.inl r37), some (.inl r56), some (.inl r75), none], [.inl 0, .inr (.inl 17)], n, D, s74, p, c)) rfl ?_
    exact K97 0  (by omega) (trivial)
  · show tt Zi d 80 (132, [some (.inr (.inl 17)), some (.inr (.inl 25)), some (.inl r2), some (.inl (r14 - 1)), some (.inl r18), some (.inl r37), some (.inl r56), some (.inl r75), none], [.inr (.inl 17)], n, D, s74, p, c) _
    refine tt_k 2 (S' := (137, [some (.inr (.inl 17)), some (.inr (.inl 25)), some (.inl r2), some (.inl (r14 - 1)), some (.inl r18), some (.inl r37), some (.inl r56), some (.inl r75), none], [.inl 1, .inr (.inl 17)], n, D, s74, p, c)) rfl ?_
    exact K97 1  (by omega) (trivial)
set_option maxRecDepth 100000 in
set_option maxHeartbeats 4000000 in
theorem g_readOther25 {g : Nat → Int} {Zi : Nat → Option (Nat × (Nat → Int))} {d n q : Nat} {D : Nat → Nat × Nat} {s : Nat → Int} {p : Nat → Nat} {c : Nat → Nat → Int} (hd : 7 ≤ d) (hz : zk Zi) (hq : q + 14 ≤ 400000) (hD : wd n p) (hS : bS s) (hC : bC D c) (hW : wp q g n D p s) (mk : Int) (b_mk : 0 ≤ mk ∧ mk ≤ 255) (hp0 : s 1705 = 1 → (1 ≤ s 2500 ∧ 2 ≤ s 2503 ∧ s 1706 ≤ s 2502)) : tt Zi d 79 (0, [some (.inr (.inl 17)), some (.inl mk), some (.inr (.inl 25))], [], n, D, s, p, c) (fun R H => (∃ (n' : Nat) (D' : Nat → Nat × Nat) (s' : Nat → Int) (p' : Nat → Nat) (c' : Nat → Nat → Int), R = .inl none ∧ H = (n', D', s', p', c') ∧ bS s' ∧ bC D' c' ∧ wp q g n' D' p' s' ∧ fr s s' [1705, 1706, 2001, 2500, 2501, 2502, 2503] ∧ frp p p' [2504] ∧ ext n D n' D' ∧ fk p c n' p' c' [18, 19, 2504] ∧ (s' 1705 = 1 → (1 ≤ s' 2500 ∧ 2 ≤ s' 2503 ∧ s' 1706 ≤ s' 2502))) ∨ (R = .inr 12 ∧ cX ((q + 1)) g s p c [18, 19, 2504] LXR H)) := by
  refine tt_k 2 (S' := (4, [some (.inr (.inl 17)), some (.inl mk), some (.inr (.inl 25))], [.inl 247, .inl mk], n, D, s, p, c)) rfl ?_
  refine tb_ne (x := mk) (y := 247) rfl rfl (by omega) (fun h1 => ?_) (fun h1 => ?_)
  · show tt Zi d 79 (22, [some (.inr (.inl 17)), some (.inl mk), some (.inr (.inl 25))], [], n, D, s, p, c) _
    refine tt_k 2 (S' := (26, [some (.inr (.inl 17)), some (.inl mk), some (.inr (.inl 25))], [.inl 248, .inl mk], n, D, s, p, c)) rfl ?_
    refine tb_ne (x := mk) (y := 248) rfl rfl (by omega) (fun h2 => ?_) (fun h2 => ?_)
    · show tt Zi d 79 (36, [some (.inr (.inl 17)), some (.inl mk), some (.inr (.inl 25))], [], n, D, s, p, c) _
      refine tt_k 2 (S' := (40, [some (.inr (.inl 17)), some (.inl mk), some (.inr (.inl 25))], [.inl 224, .inl mk], n, D, s, p, c)) rfl ?_
      refine tb_lt (x := mk) (y := 224) rfl rfl (by omega) (fun h3 => ?_) (fun h3 => ?_)
      · show tt Zi d 79 (50, [some (.inr (.inl 17)), some (.inl mk), some (.inr (.inl 25))], [], n, D, s, p, c) _
        refine tt_k 2 (S' := (54, [some (.inr (.inl 17)), some (.inl mk), some (.inr (.inl 25))], [.inl 254, .inl mk], n, D, s, p, c)) rfl ?_
        refine tb_ne (x := mk) (y := 254) rfl rfl (by omega) (fun h4 => ?_) (fun h4 => ?_)
        · show tt Zi d 79 (64, [some (.inr (.inl 17)), some (.inl mk), some (.inr (.inl 25))], [], n, D, s, p, c) _
          refine tt_k 1 (S' := (65, [some (.inr (.inl 17)), some (.inl mk), some (.inr (.inl 25))], [.inr (.inl 17)], n, D, s, p, c)) rfl ?_
          refine tt_cl (by omega) rfl (g_refuseMark (Zi := Zi) (q := q) (n := n) (D := D) (s := s) (p := p) (c := c) (by omega) hz (by omega) hD hS hC hW ) ?_
          rintro _ H1 (hF | ⟨rfl, hY5⟩)
          · exact hF.elim
          · exact tt_ax rfl (Or.inr ⟨rfl, cX_mono (cX_trx (fk_rf hD) (show fr s s LXR from fr_rf) hY5 (by decide)) (by omega)⟩)
        · exfalso; omega
      · show tt Zi d 79 (43, [some (.inr (.inl 17)), some (.inl mk), some (.inr (.inl 25))], [], n, D, s, p, c) _
        refine tt_k 2 (S' := (47, [some (.inr (.inl 17)), some (.inl mk), some (.inr (.inl 25))], [.inl 239, .inl mk], n, D, s, p, c)) rfl ?_
        refine tb_le (x := mk) (y := 239) rfl rfl (by omega) (fun h6 => ?_) (fun h6 => ?_)
        · show tt Zi d 79 (57, [some (.inr (.inl 17)), some (.inl mk), some (.inr (.inl 25))], [], n, D, s, p, c) _
          refine tt_k 1 (S' := (58, [some (.inr (.inl 17)), some (.inl mk), some (.inr (.inl 25))], [.inr (.inl 17)], n, D, s, p, c)) rfl ?_
          refine tt_cl (by omega) rfl (g_readFree (Zi := Zi) (q := q) (n := n) (D := D) (s := s) (p := p) (c := c) (by omega) hz (by omega) hD hS hC hW ) ?_
          rintro _ H1 (⟨s7, rfl, rfl, hS7, hW8, f9⟩ | ⟨rfl, hY10⟩)
          rotate_left
          · exact tt_ax rfl (Or.inr ⟨rfl, cX_mono (cX_trx (fk_rf hD) (show fr s s LXR from fr_rf) hY10 (by decide)) (by omega)⟩)
          show tt Zi d 79 (61, [some (.inr (.inl 17)), some (.inl mk), some (.inr (.inl 25))], [], n, D, s7, p, c) _
          have e11 : s7 1705 = (s 1705) := (f9 1705 (by decide))
          have b12 : 0 ≤ (s7 1705) ∧ (s7 1705) ≤ 1 := hS7 1705
          have b13 : 0 ≤ (s 1705) ∧ (s 1705) ≤ 1 := hS 1705
          have e14 : s7 1706 = (s 1706) := (f9 1706 (by decide))
          have b15 : 0 ≤ (s7 1706) ∧ (s7 1706) ≤ 3 := hS7 1706
          have b16 : 0 ≤ (s 1706) ∧ (s 1706) ≤ 3 := hS 1706
          have e17 : s7 2500 = (s 2500) := (f9 2500 (by decide))
          have b18 : 0 ≤ (s7 2500) ∧ (s7 2500) ≤ 64 := hS7 2500
          have b19 : 0 ≤ (s 2500) ∧ (s 2500) ≤ 64 := hS 2500
          have e20 : s7 2502 = (s 2502) := (f9 2502 (by decide))
          have b21 : 0 ≤ (s7 2502) ∧ (s7 2502) ≤ 3 := hS7 2502
          have b22 : 0 ≤ (s 2502) ∧ (s 2502) ≤ 3 := hS 2502
          have e23 : s7 2503 = (s 2503) := (f9 2503 (by decide))
          have b24 : 0 ≤ (s7 2503) ∧ (s7 2503) ≤ 16 := hS7 2503
          have b25 : 0 ≤ (s 2503) ∧ (s 2503) ≤ 16 := hS 2503
          refine tt_k 1 (S' := (68, [some (.inr (.inl 17)), some (.inl mk), some (.inr (.inl 25))], [], n, D, s7, p, c)) rfl ?_
          exact tt_rtv rfl rfl (Or.inl ⟨n, D, s7, p, c, rfl, rfl, hS7, hC, hW8, (fr_tr fr_rf f9 (by decide)), frp_rf, ext_rf, (fk_rf hD), by show (s7 1705) = 1 → (1 ≤ (s7 2500) ∧ 2 ≤ (s7 2503) ∧ (s7 1706) ≤ (s7 2502)); intro hf; omega⟩)
        · show tt Zi d 79 (50, [some (.inr (.inl 17)), some (.inl mk), some (.inr (.inl 25))], [], n, D, s, p, c) _
          refine tt_k 2 (S' := (54, [some (.inr (.inl 17)), some (.inl mk), some (.inr (.inl 25))], [.inl 254, .inl mk], n, D, s, p, c)) rfl ?_
          refine tb_ne (x := mk) (y := 254) rfl rfl (by omega) (fun h26 => ?_) (fun h26 => ?_)
          · show tt Zi d 79 (64, [some (.inr (.inl 17)), some (.inl mk), some (.inr (.inl 25))], [], n, D, s, p, c) _
            refine tt_k 1 (S' := (65, [some (.inr (.inl 17)), some (.inl mk), some (.inr (.inl 25))], [.inr (.inl 17)], n, D, s, p, c)) rfl ?_
            refine tt_cl (by omega) rfl (g_refuseMark (Zi := Zi) (q := q) (n := n) (D := D) (s := s) (p := p) (c := c) (by omega) hz (by omega) hD hS hC hW ) ?_
            rintro _ H1 (hF | ⟨rfl, hY27⟩)
            · exact hF.elim
            · exact tt_ax rfl (Or.inr ⟨rfl, cX_mono (cX_trx (fk_rf hD) (show fr s s LXR from fr_rf) hY27 (by decide)) (by omega)⟩)
          · show tt Zi d 79 (57, [some (.inr (.inl 17)), some (.inl mk), some (.inr (.inl 25))], [], n, D, s, p, c) _
            refine tt_k 1 (S' := (58, [some (.inr (.inl 17)), some (.inl mk), some (.inr (.inl 25))], [.inr (.inl 17)], n, D, s, p, c)) rfl ?_
            refine tt_cl (by omega) rfl (g_readFree (Zi := Zi) (q := q) (n := n) (D := D) (s := s) (p := p) (c := c) (by omega) hz (by omega) hD hS hC hW ) ?_
            rintro _ H1 (⟨s28, rfl, rfl, hS28, hW29, f30⟩ | ⟨rfl, hY31⟩)
            rotate_left
            · exact tt_ax rfl (Or.inr ⟨rfl, cX_mono (cX_trx (fk_rf hD) (show fr s s LXR from fr_rf) hY31 (by decide)) (by omega)⟩)
            show tt Zi d 79 (61, [some (.inr (.inl 17)), some (.inl mk), some (.inr (.inl 25))], [], n, D, s28, p, c) _
            have e32 : s28 1705 = (s 1705) := (f30 1705 (by decide))
            have b33 : 0 ≤ (s28 1705) ∧ (s28 1705) ≤ 1 := hS28 1705
            have b34 : 0 ≤ (s 1705) ∧ (s 1705) ≤ 1 := hS 1705
            have e35 : s28 1706 = (s 1706) := (f30 1706 (by decide))
            have b36 : 0 ≤ (s28 1706) ∧ (s28 1706) ≤ 3 := hS28 1706
            have b37 : 0 ≤ (s 1706) ∧ (s 1706) ≤ 3 := hS 1706
            have e38 : s28 2500 = (s 2500) := (f30 2500 (by decide))
            have b39 : 0 ≤ (s28 2500) ∧ (s28 2500) ≤ 64 := hS28 2500
            have b40 : 0 ≤ (s 2500) ∧ (s 2500) ≤ 64 := hS 2500
            have e41 : s28 2502 = (s 2502) := (f30 2502 (by decide))
            have b42 : 0 ≤ (s28 2502) ∧ (s28 2502) ≤ 3 := hS28 2502
            have b43 : 0 ≤ (s 2502) ∧ (s 2502) ≤ 3 := hS 2502
            have e44 : s28 2503 = (s 2503) := (f30 2503 (by decide))
            have b45 : 0 ≤ (s28 2503) ∧ (s28 2503) ≤ 16 := hS28 2503
            have b46 : 0 ≤ (s 2503) ∧ (s 2503) ≤ 16 := hS 2503
            refine tt_k 1 (S' := (68, [some (.inr (.inl 17)), some (.inl mk), some (.inr (.inl 25))], [], n, D, s28, p, c)) rfl ?_
            exact tt_rtv rfl rfl (Or.inl ⟨n, D, s28, p, c, rfl, rfl, hS28, hC, hW29, (fr_tr fr_rf f30 (by decide)), frp_rf, ext_rf, (fk_rf hD), by show (s28 1705) = 1 → (1 ≤ (s28 2500) ∧ 2 ≤ (s28 2503) ∧ (s28 1706) ≤ (s28 2502)); intro hf; omega⟩)
    · show tt Zi d 79 (29, [some (.inr (.inl 17)), some (.inl mk), some (.inr (.inl 25))], [], n, D, s, p, c) _
      refine tt_k 1 (S' := (30, [some (.inr (.inl 17)), some (.inl mk), some (.inr (.inl 25))], [.inr (.inl 17)], n, D, s, p, c)) rfl ?_
      refine tt_cl (by omega) rfl (g_readMeasures (Zi := Zi) (q := q) (n := n) (D := D) (s := s) (p := p) (c := c) (by omega) hz (by omega) hD hS hC hW ) ?_
      rintro _ H1 (⟨s47, c48, rfl, rfl, hS47, hC48, hW49, f50, kf51⟩ | ⟨rfl, hY52⟩)
      rotate_left
      · exact tt_ax rfl (Or.inr ⟨rfl, cX_mono (cX_trx (fk_rf hD) (show fr s s LXR from fr_rf) hY52 (by decide)) (by omega)⟩)
      have FK53 : fk p c n p c48 [18, 19, 2504] := fk_tr (fk_rf hD) kf51 (by decide)
      show tt Zi d 79 (33, [some (.inr (.inl 17)), some (.inl mk), some (.inr (.inl 25))], [], n, D, s47, p, c48) _
      have e54 : s47 1705 = (s 1705) := (f50 1705 (by decide))
      have b55 : 0 ≤ (s47 1705) ∧ (s47 1705) ≤ 1 := hS47 1705
      have b56 : 0 ≤ (s 1705) ∧ (s 1705) ≤ 1 := hS 1705
      have e57 : s47 1706 = (s 1706) := (f50 1706 (by decide))
      have b58 : 0 ≤ (s47 1706) ∧ (s47 1706) ≤ 3 := hS47 1706
      have b59 : 0 ≤ (s 1706) ∧ (s 1706) ≤ 3 := hS 1706
      have e60 : s47 2500 = (s 2500) := (f50 2500 (by decide))
      have b61 : 0 ≤ (s47 2500) ∧ (s47 2500) ≤ 64 := hS47 2500
      have b62 : 0 ≤ (s 2500) ∧ (s 2500) ≤ 64 := hS 2500
      have e63 : s47 2502 = (s 2502) := (f50 2502 (by decide))
      have b64 : 0 ≤ (s47 2502) ∧ (s47 2502) ≤ 3 := hS47 2502
      have b65 : 0 ≤ (s 2502) ∧ (s 2502) ≤ 3 := hS 2502
      have e66 : s47 2503 = (s 2503) := (f50 2503 (by decide))
      have b67 : 0 ≤ (s47 2503) ∧ (s47 2503) ≤ 16 := hS47 2503
      have b68 : 0 ≤ (s 2503) ∧ (s 2503) ≤ 16 := hS 2503
      refine tt_k 1 (S' := (68, [some (.inr (.inl 17)), some (.inl mk), some (.inr (.inl 25))], [], n, D, s47, p, c48)) rfl ?_
      exact tt_rtv rfl rfl (Or.inl ⟨n, D, s47, p, c48, rfl, rfl, hS47, hC48, hW49, (fr_tr fr_rf f50 (by decide)), frp_rf, ext_rf, FK53, by show (s47 1705) = 1 → (1 ≤ (s47 2500) ∧ 2 ≤ (s47 2503) ∧ (s47 1706) ≤ (s47 2502)); intro hf; omega⟩)
  · show tt Zi d 79 (7, [some (.inr (.inl 17)), some (.inl mk), some (.inr (.inl 25))], [], n, D, s, p, c) _
    refine tt_k 2 (S' := (11, [some (.inr (.inl 17)), some (.inl mk), some (.inr (.inl 25))], [.inl (s 1705)], n, D, s, p, c)) rfl ?_
    have b69 : 0 ≤ (s 1705) ∧ (s 1705) ≤ 1 := hS 1705
    refine tz_ne (x := (s 1705)) rfl rfl (by omega) (fun h70 => ?_) (fun h70 => ?_)
    · show tt Zi d 79 (22, [some (.inr (.inl 17)), some (.inl mk), some (.inr (.inl 25))], [], n, D, s, p, c) _
      refine tt_k 2 (S' := (26, [some (.inr (.inl 17)), some (.inl mk), some (.inr (.inl 25))], [.inl 248, .inl mk], n, D, s, p, c)) rfl ?_
      refine tb_ne (x := mk) (y := 248) rfl rfl (by omega) (fun h71 => ?_) (fun h71 => ?_)
      · show tt Zi d 79 (36, [some (.inr (.inl 17)), some (.inl mk), some (.inr (.inl 25))], [], n, D, s, p, c) _
        refine tt_k 2 (S' := (40, [some (.inr (.inl 17)), some (.inl mk), some (.inr (.inl 25))], [.inl 224, .inl mk], n, D, s, p, c)) rfl ?_
        refine tb_lt (x := mk) (y := 224) rfl rfl (by omega) (fun h72 => ?_) (fun h72 => ?_)
        · exfalso; omega
        · show tt Zi d 79 (43, [some (.inr (.inl 17)), some (.inl mk), some (.inr (.inl 25))], [], n, D, s, p, c) _
          refine tt_k 2 (S' := (47, [some (.inr (.inl 17)), some (.inl mk), some (.inr (.inl 25))], [.inl 239, .inl mk], n, D, s, p, c)) rfl ?_
          refine tb_le (x := mk) (y := 239) rfl rfl (by omega) (fun h73 => ?_) (fun h73 => ?_)
          · exfalso; omega
          · show tt Zi d 79 (50, [some (.inr (.inl 17)), some (.inl mk), some (.inr (.inl 25))], [], n, D, s, p, c) _
            refine tt_k 2 (S' := (54, [some (.inr (.inl 17)), some (.inl mk), some (.inr (.inl 25))], [.inl 254, .inl mk], n, D, s, p, c)) rfl ?_
            refine tb_ne (x := mk) (y := 254) rfl rfl (by omega) (fun h74 => ?_) (fun h74 => ?_)
            · show tt Zi d 79 (64, [some (.inr (.inl 17)), some (.inl mk), some (.inr (.inl 25))], [], n, D, s, p, c) _
              refine tt_k 1 (S' := (65, [some (.inr (.inl 17)), some (.inl mk), some (.inr (.inl 25))], [.inr (.inl 17)], n, D, s, p, c)) rfl ?_
              refine tt_cl (by omega) rfl (g_refuseMark (Zi := Zi) (q := q) (n := n) (D := D) (s := s) (p := p) (c := c) (by omega) hz (by omega) hD hS hC hW ) ?_
              rintro _ H1 (hF | ⟨rfl, hY75⟩)
              · exact hF.elim
              · exact tt_ax rfl (Or.inr ⟨rfl, cX_mono (cX_trx (fk_rf hD) (show fr s s LXR from fr_rf) hY75 (by decide)) (by omega)⟩)
            · exfalso; omega
      · exfalso; omega
    · show tt Zi d 79 (14, [some (.inr (.inl 17)), some (.inl mk), some (.inr (.inl 25))], [], n, D, s, p, c) _
      refine tt_k 2 (S' := (16, [some (.inr (.inl 17)), some (.inl mk), some (.inr (.inl 25))], [.inr (.inl 25), .inr (.inl 17)], n, D, s, p, c)) rfl ?_
      refine tt_cl (by omega) rfl (g_readFrame25 (Zi := Zi) (q := q) (n := n) (D := D) (s := s) (p := p) (c := c) (by omega) hz (by omega) hD hS hC hW ) ?_
      rintro _ H1 (⟨n76, D77, s78, p79, c80, rfl, rfl, hS78, hC80, hW81, f82, g83, xe84, kf85, k86⟩ | ⟨rfl, hY87⟩)
      rotate_left
      · exact tt_ax rfl (Or.inr ⟨rfl, cX_mono (cX_trx (fk_rf hD) (show fr s s LXR from fr_rf) hY87 (by decide)) (by omega)⟩)
      have FK88 : fk p c n76 p79 c80 [18, 19, 2504] := fk_tr (fk_rf hD) kf85 (by decide)
      show tt Zi d 79 (19, [some (.inr (.inl 17)), some (.inl mk), some (.inr (.inl 25))], [], n76, D77, s78, p79, c80) _
      replace k86 : 1 ≤ (s78 2500) ∧ 2 ≤ (s78 2503) ∧ (s78 1706) ≤ (s78 2502) := k86
      have b89 : 0 ≤ (s78 2500) ∧ (s78 2500) ≤ 64 := hS78 2500
      have b90 : 0 ≤ (s78 2503) ∧ (s78 2503) ≤ 16 := hS78 2503
      have b91 : 0 ≤ (s78 1706) ∧ (s78 1706) ≤ 3 := hS78 1706
      have b92 : 0 ≤ (s78 2502) ∧ (s78 2502) ≤ 3 := hS78 2502
      refine tt_k 1 (S' := (68, [some (.inr (.inl 17)), some (.inl mk), some (.inr (.inl 25))], [], n76, D77, s78, p79, c80)) rfl ?_
      exact tt_rtv rfl rfl (Or.inl ⟨n76, D77, s78, p79, c80, rfl, rfl, hS78, hC80, hW81, (fr_tr fr_rf f82 (by decide)), (frp_tr frp_rf g83 (by decide)), (ext_tr ext_rf xe84), FK88, by show (s78 1705) = 1 → (1 ≤ (s78 2500) ∧ 2 ≤ (s78 2503) ∧ (s78 1706) ≤ (s78 2502)); intro hf; omega⟩)
set_option maxRecDepth 100000 in
set_option maxHeartbeats 4000000 in
theorem g_readScan25 {g : Nat → Int} {Zi : Nat → Option (Nat × (Nat → Int))} {d n q : Nat} {D : Nat → Nat × Nat} {s : Nat → Int} {p : Nat → Nat} {c : Nat → Nat → Int} (hd : 6 ≤ d) (hz : zk Zi) (hq : q + 12 ≤ 400000) (hD : wd n p) (hS : bS s) (hC : bC D c) (hW : wp q g n D p s) (hp0 : s 1705 = 1 → (1 ≤ s 2500 ∧ 2 ≤ s 2503 ∧ s 1706 ≤ s 2502)) : tt Zi d 24 (0, [some (.inr (.inl 17)), some (.inr (.inl 25)), none, none, none], [], n, D, s, p, c) (fun R H => (∃ (s' : Nat → Int), R = .inl none ∧ H = (n, D, s', p, c) ∧ bS s' ∧ wp q g n D p s' ∧ fr s s' [800, 801, 802, 803, 804, 805, 806, 807, 808, 809, 2001] ∧ (s 1705 = 1 ∧ 1 ≤ s 1706) ∧ (s' 2001 ≤ 32768)) ∨ (R = .inr 12 ∧ cX ((q + 1)) g s p c [] LXR H)) := by
  have b1 : 0 ≤ (s 1705) ∧ (s 1705) ≤ 1 := hS 1705
  have b2 : 0 ≤ (s 1706) ∧ (s 1706) ≤ 3 := hS 1706
  have b3 : 0 ≤ (s 2502) ∧ (s 2502) ≤ 3 := hS 2502
  have b4 : 0 ≤ (s 2503) ∧ (s 2503) ≤ 16 := hS 2503
  have b5 : 0 ≤ (s 2500) ∧ (s 2500) ≤ 64 := hS 2500
  refine tt_k 2 (S' := (4, [some (.inr (.inl 17)), some (.inr (.inl 25)), none, none, none], [.inl (s 1705)], n, D, s, p, c)) rfl ?_
  refine tz_eq (x := (s 1705)) rfl rfl (by omega) (fun h6 => ?_) (fun h6 => ?_)
  · show tt Zi d 24 (14, [some (.inr (.inl 17)), some (.inr (.inl 25)), none, none, none], [], n, D, s, p, c) _
    refine tt_k 1 (S' := (15, [some (.inr (.inl 17)), some (.inr (.inl 25)), none, none, none], [.inr (.inl 17)], n, D, s, p, c)) rfl ?_
    refine tt_cl (by omega) rfl (g_refuseMark (Zi := Zi) (q := q) (n := n) (D := D) (s := s) (p := p) (c := c) (by omega) hz (by omega) hD hS hC hW ) ?_
    rintro _ H1 (hF | ⟨rfl, hY7⟩)
    · exact hF.elim
    · exact tt_ax rfl (Or.inr ⟨rfl, cX_mono (cX_trx (fk_rf hD) (show fr s s LXR from fr_rf) hY7 (by decide)) (by omega)⟩)
  · show tt Zi d 24 (7, [some (.inr (.inl 17)), some (.inr (.inl 25)), none, none, none], [], n, D, s, p, c) _
    refine tt_k 2 (S' := (11, [some (.inr (.inl 17)), some (.inr (.inl 25)), none, none, none], [.inl (s 1706)], n, D, s, p, c)) rfl ?_
    refine tz_ne (x := (s 1706)) rfl rfl (by omega) (fun h8 => ?_) (fun h8 => ?_)
    · show tt Zi d 24 (18, [some (.inr (.inl 17)), some (.inr (.inl 25)), none, none, none], [], n, D, s, p, c) _
      refine tt_k 2 (S' := (22, [some (.inr (.inl 17)), some (.inr (.inl 25)), none, none, none], [.inr (.inl 20)], n, D, s, p, c)) rfl ?_
      refine tt_cl (by omega) rfl (g_readTwo (Zi := Zi) (q := q) (n := n) (D := D) (s := s) (p := p) (c := c) (by omega) hz (by omega) hD hS hC hW ) ?_
      rintro _ H1 (⟨s9, r10, rfl, rfl, hS9, hW11, f12, b13, k14, k15⟩ | ⟨rfl, hY16⟩)
      rotate_left
      · exact tt_ax rfl (Or.inr ⟨rfl, cX_mono (cX_trx (fk_rf hD) (show fr s s LXR from fr_rf) hY16 (by decide)) (by omega)⟩)
      show tt Zi d 24 (25, [some (.inr (.inl 17)), some (.inr (.inl 25)), none, none, none], [.inl r10], n, D, s9, p, c) _
      replace k14 : (s9 2001) = (s 2001) + 2 := k14
      replace k15 : (s9 2001) ≤ (s 601) := k15
      have b17 : 0 ≤ (s 2001) ∧ (s 2001) ≤ 100000 := hS 2001
      have b18 : 0 ≤ (s9 2001) ∧ (s9 2001) ≤ 100000 := hS9 2001
      have b19 : 0 ≤ (s 601) ∧ (s 601) ≤ 32768 := hS 601
      have e20 : s9 601 = (s 601) := (f12 601 (by decide))
      have b21 : 0 ≤ (s9 601) ∧ (s9 601) ≤ 32768 := hS9 601
      have e22 : s9 1705 = (s 1705) := (f12 1705 (by decide))
      have b23 : 0 ≤ (s9 1705) ∧ (s9 1705) ≤ 1 := hS9 1705
      have e24 : s9 1706 = (s 1706) := (f12 1706 (by decide))
      have b25 : 0 ≤ (s9 1706) ∧ (s9 1706) ≤ 3 := hS9 1706
      have e26 : s9 2502 = (s 2502) := (f12 2502 (by decide))
      have b27 : 0 ≤ (s9 2502) ∧ (s9 2502) ≤ 3 := hS9 2502
      have e28 : s9 2503 = (s 2503) := (f12 2503 (by decide))
      have b29 : 0 ≤ (s9 2503) ∧ (s9 2503) ≤ 16 := hS9 2503
      refine tt_k 4 (S' := (30, [some (.inr (.inl 17)), some (.inr (.inl 25)), some (.inl r10), none, none], [.inl 8, .inl r10, .inr (.inl 17)], n, D, s9, p, c)) rfl ?_
      have K31 : ∀ (j30 : Int) , (0 ≤ j30 ∧ j30 ≤ 1) → ((r10 ≠ 8 ∧ j30 = 0) ∨ (r10 = 8 ∧ j30 = 1)) → tt Zi d 24 (38, [some (.inr (.inl 17)), some (.inr (.inl 25)), some (.inl r10), none, none], [.inl j30, .inr (.inl 17)], n, D, s9, p, c) (fun R H => (∃ (s' : Nat → Int), R = .inl none ∧ H = (n, D, s', p, c) ∧ bS s' ∧ wp q g n D p s' ∧ fr s s' [800, 801, 802, 803, 804, 805, 806, 807, 808, 809, 2001] ∧ (s 1705 = 1 ∧ 1 ≤ s 1706) ∧ (s' 2001 ≤ 32768)) ∨ (R = .inr 12 ∧ cX ((q + 1)) g s p c [] LXR H)) := by
        intro j30 b33 hj32
        refine tt_k 2 (S' := (42, [some (.inr (.inl 17)), some (.inr (.inl 25)), some (.inl r10), none, none], [.inr (.inl 20), .inl j30, .inr (.inl 17)], n, D, s9, p, c)) rfl ?_
        refine tt_cl (by omega) rfl (g_openPlace (Zi := Zi) (q := q) (n := n) (D := D) (s := s9) (p := p) (c := c) (by omega) hz (by omega) hD hS9 hC hW11 ) ?_
        rintro _ _ ⟨r34, rfl, rfl, b35, k36⟩
        show tt Zi d 24 (45, [some (.inr (.inl 17)), some (.inr (.inl 25)), some (.inl r10), none, none], [.inl r34, .inl j30, .inr (.inl 17)], n, D, s9, p, c) _
        replace k36 : r34 = (s9 2001) - 1 := k36
        refine tt_k 2 (S' := (47, [some (.inr (.inl 17)), some (.inr (.inl 25)), some (.inl r10), none, none], [.inl (r34 - 1), .inl j30, .inr (.inl 17)], n, D, s9, p, c)) rfl ?_
        refine tt_cl (by omega) rfl (g_checkLength (Zi := Zi) (q := q) (n := n) (D := D) (s := s9) (p := p) (c := c) (by omega) hz (by omega) hD hS9 hC hW11 j30 (r34 - 1) (by omega) (by omega)) ?_
        rintro _ H1 (⟨rfl, rfl, k37⟩ | ⟨rfl, hY38⟩)
        rotate_left
        · exact tt_ax rfl (Or.inr ⟨rfl, cX_mono (cX_trx (fk_rf hD) (show fr s s9 LXR from (fr_tr fr_rf f12 (by decide))) hY38 (by decide)) (by omega)⟩)
        show tt Zi d 24 (50, [some (.inr (.inl 17)), some (.inr (.inl 25)), some (.inl r10), none, none], [], n, D, s9, p, c) _
        replace k37 : j30 = 1 := k37
        refine tt_k 3 (S' := (55, [some (.inr (.inl 17)), some (.inr (.inl 25)), some (.inl r10), none, none], [.inl 1, .inr (.inl 20)], n, D, s9, p, c)) rfl ?_
        refine tt_cl (by omega) rfl (g_expect (Zi := Zi) (q := q) (n := n) (D := D) (s := s9) (p := p) (c := c) (by omega) hz (by omega) hD hS9 hC hW11 1 (by omega)) ?_
        rintro _ H1 (⟨s39, rfl, rfl, hS39, hW40, f41, k42, k43⟩ | ⟨rfl, hY44⟩)
        rotate_left
        · exact tt_ax rfl (Or.inr ⟨rfl, cX_mono (cX_trx (fk_rf hD) (show fr s s9 LXR from (fr_tr fr_rf f12 (by decide))) hY44 (by decide)) (by omega)⟩)
        show tt Zi d 24 (58, [some (.inr (.inl 17)), some (.inr (.inl 25)), some (.inl r10), none, none], [], n, D, s39, p, c) _
        replace k42 : (s39 2001) = (s9 2001) + 1 := k42
        replace k43 : (s39 2001) ≤ (s9 601) := k43
        have b45 : 0 ≤ (s39 2001) ∧ (s39 2001) ≤ 100000 := hS39 2001
        have e46 : s39 601 = (s9 601) := (f41 601 (by decide))
        have b47 : 0 ≤ (s39 601) ∧ (s39 601) ≤ 32768 := hS39 601
        have e48 : s39 1705 = (s9 1705) := (f41 1705 (by decide))
        have b49 : 0 ≤ (s39 1705) ∧ (s39 1705) ≤ 1 := hS39 1705
        have e50 : s39 1706 = (s9 1706) := (f41 1706 (by decide))
        have b51 : 0 ≤ (s39 1706) ∧ (s39 1706) ≤ 3 := hS39 1706
        have e52 : s39 2502 = (s9 2502) := (f41 2502 (by decide))
        have b53 : 0 ≤ (s39 2502) ∧ (s39 2502) ≤ 3 := hS39 2502
        have e54 : s39 2503 = (s9 2503) := (f41 2503 (by decide))
        have b55 : 0 ≤ (s39 2503) ∧ (s39 2503) ≤ 16 := hS39 2503
        refine tt_k 9 (S' := (75, [some (.inr (.inl 17)), some (.inr (.inl 25)), some (.inl r10), none, none], [.inl ((s39 2502) - (s39 1706)), .inr (.inl 19), .inr (.inl 20)], n, D, s39, p, c)) rfl ?_
        refine tt_ilb (i := ((s39 2502) - (s39 1706))) (m := 3) (lo := -2147483648) (hi := 2147483647) rfl rfl (by omega) hC ⟨rfl, rfl⟩ ?_
        intro v56 b57 hvv56
        show tt Zi d 24 (76, [some (.inr (.inl 17)), some (.inr (.inl 25)), some (.inl r10), none, none], [.inl v56, .inr (.inl 20)], n, D, s39, p, c) _
        refine tt_cl (by omega) rfl (g_expect (Zi := Zi) (q := q) (n := n) (D := D) (s := s39) (p := p) (c := c) (by omega) hz (by omega) hD hS39 hC hW40 v56 (by omega)) ?_
        rintro _ H1 (⟨s58, rfl, rfl, hS58, hW59, f60, k61, k62⟩ | ⟨rfl, hY63⟩)
        rotate_left
        · exact tt_ax rfl (Or.inr ⟨rfl, cX_mono (cX_trx (fk_rf hD) (show fr s s39 LXR from (fr_tr (fr_tr fr_rf f12 (by decide)) f41 (by decide))) hY63 (by decide)) (by omega)⟩)
        show tt Zi d 24 (79, [some (.inr (.inl 17)), some (.inr (.inl 25)), some (.inl r10), none, none], [], n, D, s58, p, c) _
        replace k61 : (s58 2001) = (s39 2001) + 1 := k61
        replace k62 : (s58 2001) ≤ (s39 601) := k62
        have b64 : 0 ≤ (s58 2001) ∧ (s58 2001) ≤ 100000 := hS58 2001
        have e65 : s58 601 = (s39 601) := (f60 601 (by decide))
        have b66 : 0 ≤ (s58 601) ∧ (s58 601) ≤ 32768 := hS58 601
        have e67 : s58 1705 = (s39 1705) := (f60 1705 (by decide))
        have b68 : 0 ≤ (s58 1705) ∧ (s58 1705) ≤ 1 := hS58 1705
        have e69 : s58 1706 = (s39 1706) := (f60 1706 (by decide))
        have b70 : 0 ≤ (s58 1706) ∧ (s58 1706) ≤ 3 := hS58 1706
        have e71 : s58 2502 = (s39 2502) := (f60 2502 (by decide))
        have b72 : 0 ≤ (s58 2502) ∧ (s58 2502) ≤ 3 := hS58 2502
        have e73 : s58 2503 = (s39 2503) := (f60 2503 (by decide))
        have b74 : 0 ≤ (s58 2503) ∧ (s58 2503) ≤ 16 := hS58 2503
        refine tt_k 3 (S' := (84, [some (.inr (.inl 17)), some (.inr (.inl 25)), some (.inl r10), none, none], [.inl 0, .inr (.inl 20)], n, D, s58, p, c)) rfl ?_
        refine tt_cl (by omega) rfl (g_expect (Zi := Zi) (q := q) (n := n) (D := D) (s := s58) (p := p) (c := c) (by omega) hz (by omega) hD hS58 hC hW59 0 (by omega)) ?_
        rintro _ H1 (⟨s75, rfl, rfl, hS75, hW76, f77, k78, k79⟩ | ⟨rfl, hY80⟩)
        rotate_left
        · exact tt_ax rfl (Or.inr ⟨rfl, cX_mono (cX_trx (fk_rf hD) (show fr s s58 LXR from (fr_tr (fr_tr (fr_tr fr_rf f12 (by decide)) f41 (by decide)) f60 (by decide))) hY80 (by decide)) (by omega)⟩)
        show tt Zi d 24 (87, [some (.inr (.inl 17)), some (.inr (.inl 25)), some (.inl r10), none, none], [], n, D, s75, p, c) _
        replace k78 : (s75 2001) = (s58 2001) + 1 := k78
        replace k79 : (s75 2001) ≤ (s58 601) := k79
        have b81 : 0 ≤ (s75 2001) ∧ (s75 2001) ≤ 100000 := hS75 2001
        have e82 : s75 601 = (s58 601) := (f77 601 (by decide))
        have b83 : 0 ≤ (s75 601) ∧ (s75 601) ≤ 32768 := hS75 601
        have e84 : s75 1705 = (s58 1705) := (f77 1705 (by decide))
        have b85 : 0 ≤ (s75 1705) ∧ (s75 1705) ≤ 1 := hS75 1705
        have e86 : s75 1706 = (s58 1706) := (f77 1706 (by decide))
        have b87 : 0 ≤ (s75 1706) ∧ (s75 1706) ≤ 3 := hS75 1706
        have e88 : s75 2502 = (s58 2502) := (f77 2502 (by decide))
        have b89 : 0 ≤ (s75 2502) ∧ (s75 2502) ≤ 3 := hS75 2502
        have e90 : s75 2503 = (s58 2503) := (f77 2503 (by decide))
        have b91 : 0 ≤ (s75 2503) ∧ (s75 2503) ≤ 16 := hS75 2503
        refine tt_k 2 (S' := (91, [some (.inr (.inl 17)), some (.inr (.inl 25)), some (.inl r10), none, none], [.inr (.inl 20)], n, D, s75, p, c)) rfl ?_
        refine tt_cl (by omega) rfl (g_readByte (Zi := Zi) (q := q) (n := n) (D := D) (s := s75) (p := p) (c := c) (by omega) hz (by omega) hD hS75 hC hW76 ) ?_
        rintro _ H1 (⟨s92, r93, rfl, rfl, hS92, hW94, f95, b96, k97, k98⟩ | ⟨rfl, hY99⟩)
        rotate_left
        · exact tt_ax rfl (Or.inr ⟨rfl, cX_mono (cX_trx (fk_rf hD) (show fr s s75 LXR from (fr_tr (fr_tr (fr_tr (fr_tr fr_rf f12 (by decide)) f41 (by decide)) f60 (by decide)) f77 (by decide))) hY99 (by decide)) (by omega)⟩)
        show tt Zi d 24 (94, [some (.inr (.inl 17)), some (.inr (.inl 25)), some (.inl r10), none, none], [.inl r93], n, D, s92, p, c) _
        replace k97 : (s92 2001) = (s75 2001) + 1 := k97
        replace k98 : (s92 2001) ≤ (s75 601) := k98
        have b100 : 0 ≤ (s92 2001) ∧ (s92 2001) ≤ 100000 := hS92 2001
        have e101 : s92 601 = (s75 601) := (f95 601 (by decide))
        have b102 : 0 ≤ (s92 601) ∧ (s92 601) ≤ 32768 := hS92 601
        have e103 : s92 1705 = (s75 1705) := (f95 1705 (by decide))
        have b104 : 0 ≤ (s92 1705) ∧ (s92 1705) ≤ 1 := hS92 1705
        have e105 : s92 1706 = (s75 1706) := (f95 1706 (by decide))
        have b106 : 0 ≤ (s92 1706) ∧ (s92 1706) ≤ 3 := hS92 1706
        have e107 : s92 2502 = (s75 2502) := (f95 2502 (by decide))
        have b108 : 0 ≤ (s92 2502) ∧ (s92 2502) ≤ 3 := hS92 2502
        have e109 : s92 2503 = (s75 2503) := (f95 2503 (by decide))
        have b110 : 0 ≤ (s92 2503) ∧ (s92 2503) ≤ 16 := hS92 2503
        refine tt_k 3 (S' := (99, [some (.inr (.inl 17)), some (.inr (.inl 25)), some (.inl r10), some (.inl r93), none], [.inr (.inl 20)], n, D, s92, p, c)) rfl ?_
        refine tt_cl (by omega) rfl (g_openPlace (Zi := Zi) (q := q) (n := n) (D := D) (s := s92) (p := p) (c := c) (by omega) hz (by omega) hD hS92 hC hW94 ) ?_
        rintro _ _ ⟨r111, rfl, rfl, b112, k113⟩
        show tt Zi d 24 (102, [some (.inr (.inl 17)), some (.inr (.inl 25)), some (.inl r10), some (.inl r93), none], [.inl r111], n, D, s92, p, c) _
        replace k113 : r111 = (s92 2001) - 1 := k113
        refine tt_k 4 (S' := (109, [some (.inr (.inl 17)), some (.inr (.inl 25)), some (.inl r10), some (.inl r93), some (.inl r111)], [.inl 0, .inr (.inl 20)], n, D, s92, p, c)) rfl ?_
        refine tt_cl (by omega) rfl (g_expect (Zi := Zi) (q := q) (n := n) (D := D) (s := s92) (p := p) (c := c) (by omega) hz (by omega) hD hS92 hC hW94 0 (by omega)) ?_
        rintro _ H1 (⟨s114, rfl, rfl, hS114, hW115, f116, k117, k118⟩ | ⟨rfl, hY119⟩)
        rotate_left
        · exact tt_ax rfl (Or.inr ⟨rfl, cX_mono (cX_trx (fk_rf hD) (show fr s s92 LXR from (fr_tr (fr_tr (fr_tr (fr_tr (fr_tr fr_rf f12 (by decide)) f41 (by decide)) f60 (by decide)) f77 (by decide)) f95 (by decide))) hY119 (by decide)) (by omega)⟩)
        show tt Zi d 24 (112, [some (.inr (.inl 17)), some (.inr (.inl 25)), some (.inl r10), some (.inl r93), some (.inl r111)], [], n, D, s114, p, c) _
        replace k117 : (s114 2001) = (s92 2001) + 1 := k117
        replace k118 : (s114 2001) ≤ (s92 601) := k118
        have b120 : 0 ≤ (s114 2001) ∧ (s114 2001) ≤ 100000 := hS114 2001
        have e121 : s114 601 = (s92 601) := (f116 601 (by decide))
        have b122 : 0 ≤ (s114 601) ∧ (s114 601) ≤ 32768 := hS114 601
        have e123 : s114 1705 = (s92 1705) := (f116 1705 (by decide))
        have b124 : 0 ≤ (s114 1705) ∧ (s114 1705) ≤ 1 := hS114 1705
        have e125 : s114 1706 = (s92 1706) := (f116 1706 (by decide))
        have b126 : 0 ≤ (s114 1706) ∧ (s114 1706) ≤ 3 := hS114 1706
        have e127 : s114 2502 = (s92 2502) := (f116 2502 (by decide))
        have b128 : 0 ≤ (s114 2502) ∧ (s114 2502) ≤ 3 := hS114 2502
        have e129 : s114 2503 = (s92 2503) := (f116 2503 (by decide))
        have b130 : 0 ≤ (s114 2503) ∧ (s114 2503) ≤ 16 := hS114 2503
        refine tt_k 3 (S' := (117, [some (.inr (.inl 17)), some (.inr (.inl 25)), some (.inl r10), some (.inl r93), some (.inl r111)], [.inl 0, .inr (.inl 20)], n, D, s114, p, c)) rfl ?_
        refine tt_cl (by omega) rfl (g_expect (Zi := Zi) (q := q) (n := n) (D := D) (s := s114) (p := p) (c := c) (by omega) hz (by omega) hD hS114 hC hW115 0 (by omega)) ?_
        rintro _ H1 (⟨s131, rfl, rfl, hS131, hW132, f133, k134, k135⟩ | ⟨rfl, hY136⟩)
        rotate_left
        · exact tt_ax rfl (Or.inr ⟨rfl, cX_mono (cX_trx (fk_rf hD) (show fr s s114 LXR from (fr_tr (fr_tr (fr_tr (fr_tr (fr_tr (fr_tr fr_rf f12 (by decide)) f41 (by decide)) f60 (by decide)) f77 (by decide)) f95 (by decide)) f116 (by decide))) hY136 (by decide)) (by omega)⟩)
        show tt Zi d 24 (120, [some (.inr (.inl 17)), some (.inr (.inl 25)), some (.inl r10), some (.inl r93), some (.inl r111)], [], n, D, s131, p, c) _
        replace k134 : (s131 2001) = (s114 2001) + 1 := k134
        replace k135 : (s131 2001) ≤ (s114 601) := k135
        have b137 : 0 ≤ (s131 2001) ∧ (s131 2001) ≤ 100000 := hS131 2001
        have e138 : s131 601 = (s114 601) := (f133 601 (by decide))
        have b139 : 0 ≤ (s131 601) ∧ (s131 601) ≤ 32768 := hS131 601
        have e140 : s131 1705 = (s114 1705) := (f133 1705 (by decide))
        have b141 : 0 ≤ (s131 1705) ∧ (s131 1705) ≤ 1 := hS131 1705
        have e142 : s131 1706 = (s114 1706) := (f133 1706 (by decide))
        have b143 : 0 ≤ (s131 1706) ∧ (s131 1706) ≤ 3 := hS131 1706
        have e144 : s131 2502 = (s114 2502) := (f133 2502 (by decide))
        have b145 : 0 ≤ (s131 2502) ∧ (s131 2502) ≤ 3 := hS131 2502
        have e146 : s131 2503 = (s114 2503) := (f133 2503 (by decide))
        have b147 : 0 ≤ (s131 2503) ∧ (s131 2503) ≤ 16 := hS131 2503
        refine tt_k 7 (S' := (133, [some (.inr (.inl 17)), some (.inr (.inl 25)), some (.inl r10), some (.inl r93), some (.inl r111)], [.inl r93, .inl (s131 2503), .inr (.inl 18), .inr (.inl 8)], n, D, s131, p, c)) rfl ?_
        refine tt_cl (by omega) rfl (g_settle18 (Zi := Zi) (q := q) (n := n) (D := D) (s := s131) (p := p) (c := c) (by omega) hz (by omega) hD hS131 hC hW132 (s131 2503) r93 (by omega) (by omega)) ?_
        rintro _ _ ⟨s148, r149, rfl, rfl, hS148, hW150, f151, b152, k153⟩
        show tt Zi d 24 (136, [some (.inr (.inl 17)), some (.inr (.inl 25)), some (.inl r10), some (.inl r93), some (.inl r111)], [.inl r149], n, D, s148, p, c) _
        replace k153 : r149 = 1 → 0 ≤ (s148 801) ∧ (s148 801) ≤ 255 := k153
        have b154 : -2147483648 ≤ (s148 801) ∧ (s148 801) ≤ 2147483647 := hS148 801
        have e155 : s148 601 = (s131 601) := (f151 601 (by decide))
        have b156 : 0 ≤ (s148 601) ∧ (s148 601) ≤ 32768 := hS148 601
        have e157 : s148 2001 = (s131 2001) := (f151 2001 (by decide))
        have b158 : 0 ≤ (s148 2001) ∧ (s148 2001) ≤ 100000 := hS148 2001
        have e159 : s148 1705 = (s131 1705) := (f151 1705 (by decide))
        have b160 : 0 ≤ (s148 1705) ∧ (s148 1705) ≤ 1 := hS148 1705
        have e161 : s148 1706 = (s131 1706) := (f151 1706 (by decide))
        have b162 : 0 ≤ (s148 1706) ∧ (s148 1706) ≤ 3 := hS148 1706
        have e163 : s148 2502 = (s131 2502) := (f151 2502 (by decide))
        have b164 : 0 ≤ (s148 2502) ∧ (s148 2502) ≤ 3 := hS148 2502
        have e165 : s148 2503 = (s131 2503) := (f151 2503 (by decide))
        have b166 : 0 ≤ (s148 2503) ∧ (s148 2503) ≤ 16 := hS148 2503
        refine tz_ne (x := r149) rfl rfl (by omega) (fun h167 => ?_) (fun h167 => ?_)
        · show tt Zi d 24 (150, [some (.inr (.inl 17)), some (.inr (.inl 25)), some (.inl r10), some (.inl r93), some (.inl r111)], [], n, D, s148, p, c) _
          exact tt_rtv rfl rfl (Or.inl ⟨s148, rfl, rfl, hS148, hW150, (fr_tr (fr_tr (fr_tr (fr_tr (fr_tr (fr_tr (fr_tr (fr_tr fr_rf f12 (by decide)) f41 (by decide)) f60 (by decide)) f77 (by decide)) f95 (by decide)) f116 (by decide)) f133 (by decide)) f151 (by decide)), by show s 1705 = 1 ∧ 1 ≤ s 1706; omega, by show (s148 2001) ≤ 32768; omega⟩)
        · show tt Zi d 24 (139, [some (.inr (.inl 17)), some (.inr (.inl 25)), some (.inl r10), some (.inl r93), some (.inl r111)], [], n, D, s148, p, c) _
          refine tt_k 4 (S' := (147, [some (.inr (.inl 17)), some (.inr (.inl 25)), some (.inl r10), some (.inl r93), some (.inl r111)], [.inl r111, .inl 6, .inr (.inl 20)], n, D, s148, p, c)) rfl ?_
          refine tt_cl (by omega) rfl (g_refuse (Zi := Zi) (q := q) (n := n) (D := D) (s := s148) (p := p) (c := c) (by omega) hz (by omega) hD hS148 hC hW150 6 r111 (by omega) (by omega)) ?_
          rintro _ H1 (hF | ⟨rfl, hY168⟩)
          · exact hF.elim
          · exact tt_ax rfl (Or.inr ⟨rfl, cX_mono (cX_trx (fk_rf hD) (show fr s s148 LXR from (fr_tr (fr_tr (fr_tr (fr_tr (fr_tr (fr_tr (fr_tr (fr_tr fr_rf f12 (by decide)) f41 (by decide)) f60 (by decide)) f77 (by decide)) f95 (by decide)) f116 (by decide)) f133 (by decide)) f151 (by decide))) hY168 (by decide)) (by omega)⟩)
      refine tb_ne (x := r10) (y := 8) rfl rfl (by omega) (fun h169 => ?_) (fun h169 => ?_)
      · show tt Zi d 24 (37, [some (.inr (.inl 17)), some (.inr (.inl 25)), some (.inl r10), none, none], [.inr (.inl 17)], n, D, s9, p, c) _
        refine tt_k 1 (S' := (38, [some (.inr (.inl 17)), some (.inr (.inl 25)), some (.inl r10), none, none], [.inl 0, .inr (.inl 17)], n, D, s9, p, c)) rfl ?_
        exact K31 0  (by omega) (Or.inl ⟨h169, rfl⟩)
      · show tt Zi d 24 (33, [some (.inr (.inl 17)), some (.inr (.inl 25)), some (.inl r10), none, none], [.inr (.inl 17)], n, D, s9, p, c) _
        refine tt_k 2 (S' := (38, [some (.inr (.inl 17)), some (.inr (.inl 25)), some (.inl r10), none, none], [.inl 1, .inr (.inl 17)], n, D, s9, p, c)) rfl ?_
        exact K31 1  (by omega) (Or.inr (⟨h169, rfl⟩))
    · show tt Zi d 24 (14, [some (.inr (.inl 17)), some (.inr (.inl 25)), none, none, none], [], n, D, s, p, c) _
      refine tt_k 1 (S' := (15, [some (.inr (.inl 17)), some (.inr (.inl 25)), none, none, none], [.inr (.inl 17)], n, D, s, p, c)) rfl ?_
      refine tt_cl (by omega) rfl (g_refuseMark (Zi := Zi) (q := q) (n := n) (D := D) (s := s) (p := p) (c := c) (by omega) hz (by omega) hD hS hC hW ) ?_
      rintro _ H1 (hF | ⟨rfl, hY170⟩)
      · exact hF.elim
      · exact tt_ax rfl (Or.inr ⟨rfl, cX_mono (cX_trx (fk_rf hD) (show fr s s LXR from fr_rf) hY170 (by decide)) (by omega)⟩)
set_option maxRecDepth 100000 in
set_option maxHeartbeats 4000000 in
theorem g_readRow25_L52 {g : Nat → Int} {Zi : Nat → Option (Nat × (Nat → Int))} {d n q : Nat} {D : Nat → Nat × Nat} {s : Nat → Int} {p : Nat → Nat} {c : Nat → Nat → Int}  {Q : mi_Rs → mi_H → Prop} (hd : 9 ≤ d) (hz : zk Zi) (hq : q + 18 ≤ 400001) (hD : wd n p) (hS : bS s) (hC : bC D c) (hW : wp q g n D p s) (hX12 : ∀ H, cX (q + 1) g s p c [18, 19, 900, 901, 2103, 2104, 2504] LXR H → Q (.inr 12) H)
  (hK : ∀ (mk : Int) (i : Int) (n0 : Nat) (D0 : Nat → Nat × Nat) (s0 : Nat → Int) (p0 : Nat → Nat) (c0 : Nat → Nat → Int) (b_mk : 0 ≤ mk ∧ mk ≤ 255) (b_i : 0 ≤ i ∧ i ≤ 32768) (hS0 : bS s0) (hF0 : fr s s0 [800, 801, 802, 803, 804, 805, 806, 807, 808, 809, 902, 1705, 1706, 2001, 2002, 2003, 2004, 2106, 2107, 2108, 2109, 2110, 2111, 2112, 2113, 2114, 2115, 2116, 2500, 2501, 2502, 2503]) (hC0 : bC D0 c0) (hW0 : wp q g n0 D0 p0 s0) (hP0 : frp p p0 [900, 901, 2103, 2104, 2105, 2504]) (hE0 : ext n D n0 D0) (hK0 : fk p c n0 p0 c0 [18, 19, 900, 901, 2103, 2104, 2504]) (i0 : s0 1705 = 1 → (1 ≤ s0 2500 ∧ 2 ≤ s0 2503 ∧ s0 1706 ≤ s0 2502)), (True) → tt Zi d 16 (141, [some (.inr (.inl 17)), some (.inr (.inl 25)), some (.inl mk), some (.inl i)], [], n0, D0, s0, p0, c0) Q) :
  ∀ (m : Nat) (mk : Int) (i : Int) (n0 : Nat) (D0 : Nat → Nat × Nat) (s0 : Nat → Int) (p0 : Nat → Nat) (c0 : Nat → Nat → Int) (b_mk : 0 ≤ mk ∧ mk ≤ 255) (b_i : 0 ≤ i ∧ i ≤ 32768) (hS0 : bS s0) (hF0 : fr s s0 [800, 801, 802, 803, 804, 805, 806, 807, 808, 809, 902, 1705, 1706, 2001, 2002, 2003, 2004, 2106, 2107, 2108, 2109, 2110, 2111, 2112, 2113, 2114, 2115, 2116, 2500, 2501, 2502, 2503]) (hC0 : bC D0 c0) (hW0 : wp q g n0 D0 p0 s0) (hP0 : frp p p0 [900, 901, 2103, 2104, 2105, 2504]) (hE0 : ext n D n0 D0) (hK0 : fk p c n0 p0 c0 [18, 19, 900, 901, 2103, 2104, 2504]) (i0 : s0 1705 = 1 → (1 ≤ s0 2500 ∧ 2 ≤ s0 2503 ∧ s0 1706 ≤ s0 2502)), (32768 - i).toNat < m → tt Zi d 16 (52, [some (.inr (.inl 17)), some (.inr (.inl 25)), some (.inl mk), some (.inl i)], [], n0, D0, s0, p0, c0) Q := by
  intro m
  induction m with
  | zero => intro mk i n0 D0 s0 p0 c0 b_mk b_i hS0 hF0 hC0 hW0 hP0 hE0 hK0 i0 hm; exact absurd hm (by omega)
  | succ m ih =>
    intro mk i n0 D0 s0 p0 c0 b_mk b_i hS0 hF0 hC0 hW0 hP0 hE0 hK0 i0 hm
    have e1 : s0 601 = s 601 := hF0 601 (by decide)
    have b2 : 0 ≤ (s0 601) ∧ (s0 601) ≤ 32768 := hS0 601
    have b3 : 0 ≤ (s 601) ∧ (s 601) ≤ 32768 := hS 601
    refine tt_k 2 (S' := (55, [some (.inr (.inl 17)), some (.inr (.inl 25)), some (.inl mk), some (.inl i)], [.inl 32768, .inl i], n0, D0, s0, p0, c0)) rfl ?_
    refine tb_ge (x := i) (y := 32768) rfl rfl (by omega) (fun h4 => ?_) (fun h4 => ?_)
    · show tt Zi d 16 (141, [some (.inr (.inl 17)), some (.inr (.inl 25)), some (.inl mk), some (.inl i)], [], n0, D0, s0, p0, c0) _
      exact hK mk i n0 D0 s0 p0 c0 (by omega) (by omega) hS0 hF0 hC0 hW0 hP0 hE0 hK0 i0 trivial
    · show tt Zi d 16 (58, [some (.inr (.inl 17)), some (.inr (.inl 25)), some (.inl mk), some (.inl i)], [], n0, D0, s0, p0, c0) _
      refine tt_k 2 (S' := (62, [some (.inr (.inl 17)), some (.inr (.inl 25)), some (.inl mk), some (.inl i)], [.inl 217, .inl mk], n0, D0, s0, p0, c0)) rfl ?_
      refine tb_eq (x := mk) (y := 217) rfl rfl (by omega) (fun h5 => ?_) (fun h5 => ?_)
      · show tt Zi d 16 (141, [some (.inr (.inl 17)), some (.inr (.inl 25)), some (.inl mk), some (.inl i)], [], n0, D0, s0, p0, c0) _
        exact hK mk i n0 D0 s0 p0 c0 (by omega) (by omega) hS0 hF0 hC0 hW0 hP0 hE0 hK0 i0 trivial
      · show tt Zi d 16 (65, [some (.inr (.inl 17)), some (.inr (.inl 25)), some (.inl mk), some (.inl i)], [], n0, D0, s0, p0, c0) _
        refine tt_k 2 (S' := (69, [some (.inr (.inl 17)), some (.inr (.inl 25)), some (.inl mk), some (.inl i)], [.inl 218, .inl mk], n0, D0, s0, p0, c0)) rfl ?_
        refine tb_ne (x := mk) (y := 218) rfl rfl (by omega) (fun h6 => ?_) (fun h6 => ?_)
        · show tt Zi d 16 (121, [some (.inr (.inl 17)), some (.inr (.inl 25)), some (.inl mk), some (.inl i)], [], n0, D0, s0, p0, c0) _
          refine tt_k 3 (S' := (124, [some (.inr (.inl 17)), some (.inr (.inl 25)), some (.inl mk), some (.inl i)], [.inr (.inl 25), .inl mk, .inr (.inl 17)], n0, D0, s0, p0, c0)) rfl ?_
          have b7 : 0 ≤ (s0 1705) ∧ (s0 1705) ≤ 1 := hS0 1705
          have b8 : 0 ≤ (s0 1706) ∧ (s0 1706) ≤ 3 := hS0 1706
          have b9 : 0 ≤ (s0 2502) ∧ (s0 2502) ≤ 3 := hS0 2502
          have b10 : 0 ≤ (s0 2500) ∧ (s0 2500) ≤ 64 := hS0 2500
          have b11 : 0 ≤ (s0 2503) ∧ (s0 2503) ≤ 16 := hS0 2503
          refine tt_cl (by omega) rfl (g_readOther25 (Zi := Zi) (q := q) (n := n0) (D := D0) (s := s0) (p := p0) (c := c0) (by omega) hz (by omega) hK0.1 hS0 hC0 hW0 mk (by omega) (show (s0 1705) = 1 → (1 ≤ (s0 2500) ∧ 2 ≤ (s0 2503) ∧ (s0 1706) ≤ (s0 2502)) by omega)) ?_
          rintro _ H1 (⟨n12, D13, s14, p15, c16, rfl, rfl, hS14, hC16, hW17, f18, g19, xe20, kf21, k22⟩ | ⟨rfl, hY23⟩)
          rotate_left
          · exact tt_ax rfl (hX12 _ (cX_mono (cX_trx hK0 (fr_wk (show fr s s0 [800, 801, 802, 803, 804, 805, 806, 807, 808, 809, 902, 1705, 1706, 2001, 2002, 2003, 2004, 2106, 2107, 2108, 2109, 2110, 2111, 2112, 2113, 2114, 2115, 2116, 2500, 2501, 2502, 2503] from hF0) (by decide)) hY23 (by decide)) (by omega)))
          have FK24 : fk p c n12 p15 c16 [18, 19, 900, 901, 2103, 2104, 2504] := fk_tr hK0 kf21 (by decide)
          show tt Zi d 16 (127, [some (.inr (.inl 17)), some (.inr (.inl 25)), some (.inl mk), some (.inl i)], [], n12, D13, s14, p15, c16) _
          replace k22 : (s14 1705) = 1 → (1 ≤ (s14 2500) ∧ 2 ≤ (s14 2503) ∧ (s14 1706) ≤ (s14 2502)) := k22
          have b25 : 0 ≤ (s14 1705) ∧ (s14 1705) ≤ 1 := hS14 1705
          have b26 : 0 ≤ (s14 2500) ∧ (s14 2500) ≤ 64 := hS14 2500
          have b27 : 0 ≤ (s14 2503) ∧ (s14 2503) ≤ 16 := hS14 2503
          have b28 : 0 ≤ (s14 1706) ∧ (s14 1706) ≤ 3 := hS14 1706
          have b29 : 0 ≤ (s14 2502) ∧ (s14 2502) ≤ 3 := hS14 2502
          have e30 : s14 601 = (s0 601) := (f18 601 (by decide))
          have b31 : 0 ≤ (s14 601) ∧ (s14 601) ≤ 32768 := hS14 601
          refine tt_k 2 (S' := (131, [some (.inr (.inl 17)), some (.inr (.inl 25)), some (.inl mk), some (.inl i)], [.inr (.inl 20)], n12, D13, s14, p15, c16)) rfl ?_
          refine tt_cl (by omega) rfl (g_readMark (Zi := Zi) (q := q) (n := n12) (D := D13) (s := s14) (p := p15) (c := c16) (by omega) hz (by omega) FK24.1 hS14 hC16 hW17 ) ?_
          rintro _ H1 (⟨s32, r33, rfl, rfl, hS32, hW34, f35, b36, k37, k38⟩ | ⟨rfl, hY39⟩)
          rotate_left
          · exact tt_ax rfl (hX12 _ (cX_mono (cX_trx FK24 (fr_wk (show fr s s14 [800, 801, 802, 803, 804, 805, 806, 807, 808, 809, 902, 1705, 1706, 2001, 2002, 2003, 2004, 2106, 2107, 2108, 2109, 2110, 2111, 2112, 2113, 2114, 2115, 2116, 2500, 2501, 2502, 2503] from (fr_tr hF0 f18 (by decide))) (by decide)) hY39 (by decide)) (by omega)))
          show tt Zi d 16 (134, [some (.inr (.inl 17)), some (.inr (.inl 25)), some (.inl mk), some (.inl i)], [.inl r33], n12, D13, s32, p15, c16) _
          replace k37 : (s32 2001) ≤ (s14 601) := k37
          replace k38 : 1 ≤ (s32 2001) := k38
          have b40 : 0 ≤ (s32 2001) ∧ (s32 2001) ≤ 100000 := hS32 2001
          have e41 : s32 1705 = (s14 1705) := (f35 1705 (by decide))
          have b42 : 0 ≤ (s32 1705) ∧ (s32 1705) ≤ 1 := hS32 1705
          have e43 : s32 1706 = (s14 1706) := (f35 1706 (by decide))
          have b44 : 0 ≤ (s32 1706) ∧ (s32 1706) ≤ 3 := hS32 1706
          have e45 : s32 2500 = (s14 2500) := (f35 2500 (by decide))
          have b46 : 0 ≤ (s32 2500) ∧ (s32 2500) ≤ 64 := hS32 2500
          have e47 : s32 2502 = (s14 2502) := (f35 2502 (by decide))
          have b48 : 0 ≤ (s32 2502) ∧ (s32 2502) ≤ 3 := hS32 2502
          have e49 : s32 2503 = (s14 2503) := (f35 2503 (by decide))
          have b50 : 0 ≤ (s32 2503) ∧ (s32 2503) ≤ 16 := hS32 2503
          have e51 : s32 601 = (s14 601) := (f35 601 (by decide))
          have b52 : 0 ≤ (s32 601) ∧ (s32 601) ≤ 32768 := hS32 601
          refine tt_k 3 (S' := (52, [some (.inr (.inl 17)), some (.inr (.inl 25)), some (.inl r33), some (.inl (i + 1))], [], n12, D13, s32, p15, c16)) rfl ?_
          exact ih r33 (i + 1) n12 D13 s32 p15 c16 (by omega) (by omega) hS32 (fr_tr (fr_tr hF0 f18 (by decide)) f35 (by decide)) hC16 hW34 (frp_tr hP0 g19 (by decide)) (ext_tr hE0 xe20) FK24 (by intro hf; omega) (show (32768 - (i + 1)).toNat < m by omega)
        · show tt Zi d 16 (72, [some (.inr (.inl 17)), some (.inr (.inl 25)), some (.inl mk), some (.inl i)], [], n0, D0, s0, p0, c0) _
          refine tt_k 2 (S' := (74, [some (.inr (.inl 17)), some (.inr (.inl 25)), some (.inl mk), some (.inl i)], [.inr (.inl 25), .inr (.inl 17)], n0, D0, s0, p0, c0)) rfl ?_
          have b53 : 0 ≤ (s0 1705) ∧ (s0 1705) ≤ 1 := hS0 1705
          have b54 : 0 ≤ (s0 1706) ∧ (s0 1706) ≤ 3 := hS0 1706
          have b55 : 0 ≤ (s0 2502) ∧ (s0 2502) ≤ 3 := hS0 2502
          have b56 : 0 ≤ (s0 2500) ∧ (s0 2500) ≤ 64 := hS0 2500
          have b57 : 0 ≤ (s0 2503) ∧ (s0 2503) ≤ 16 := hS0 2503
          refine tt_cl (by omega) rfl (g_readScan25 (Zi := Zi) (q := q) (n := n0) (D := D0) (s := s0) (p := p0) (c := c0) (by omega) hz (by omega) hK0.1 hS0 hC0 hW0 (show (s0 1705) = 1 → (1 ≤ (s0 2500) ∧ 2 ≤ (s0 2503) ∧ (s0 1706) ≤ (s0 2502)) by omega)) ?_
          rintro _ H1 (⟨s58, rfl, rfl, hS58, hW59, f60, k61, k62⟩ | ⟨rfl, hY63⟩)
          rotate_left
          · exact tt_ax rfl (hX12 _ (cX_mono (cX_trx hK0 (fr_wk (show fr s s0 [800, 801, 802, 803, 804, 805, 806, 807, 808, 809, 902, 1705, 1706, 2001, 2002, 2003, 2004, 2106, 2107, 2108, 2109, 2110, 2111, 2112, 2113, 2114, 2115, 2116, 2500, 2501, 2502, 2503] from hF0) (by decide)) hY63 (by decide)) (by omega)))
          show tt Zi d 16 (77, [some (.inr (.inl 17)), some (.inr (.inl 25)), some (.inl mk), some (.inl i)], [], n0, D0, s58, p0, c0) _
          replace k61 : (s0 1705) = 1 ∧ 1 ≤ (s0 1706) := k61
          replace k62 : (s58 2001) ≤ 32768 := k62
          have b64 : 0 ≤ (s58 2001) ∧ (s58 2001) ≤ 100000 := hS58 2001
          have e65 : s58 1705 = (s0 1705) := (f60 1705 (by decide))
          have b66 : 0 ≤ (s58 1705) ∧ (s58 1705) ≤ 1 := hS58 1705
          have e67 : s58 1706 = (s0 1706) := (f60 1706 (by decide))
          have b68 : 0 ≤ (s58 1706) ∧ (s58 1706) ≤ 3 := hS58 1706
          have e69 : s58 2500 = (s0 2500) := (f60 2500 (by decide))
          have b70 : 0 ≤ (s58 2500) ∧ (s58 2500) ≤ 64 := hS58 2500
          have e71 : s58 2502 = (s0 2502) := (f60 2502 (by decide))
          have b72 : 0 ≤ (s58 2502) ∧ (s58 2502) ≤ 3 := hS58 2502
          have e73 : s58 2503 = (s0 2503) := (f60 2503 (by decide))
          have b74 : 0 ≤ (s58 2503) ∧ (s58 2503) ≤ 16 := hS58 2503
          have e75 : s58 601 = (s0 601) := (f60 601 (by decide))
          have b76 : 0 ≤ (s58 601) ∧ (s58 601) ≤ 32768 := hS58 601
          refine tt_k 2 (S' := (81, [some (.inr (.inl 17)), some (.inr (.inl 25)), some (.inl mk), some (.inl i)], [.inr (.inl 20)], n0, D0, s58, p0, c0)) rfl ?_
          refine tt_cl (by omega) rfl (g_beginData (Zi := Zi) (q := q) (n := n0) (D := D0) (s := s58) (p := p0) (c := c0) (by omega) hz (by omega) hK0.1 hS58 hC0 hW59 ) ?_
          rintro _ _ ⟨s77, rfl, rfl, hS77, hW78, f79⟩
          show tt Zi d 16 (84, [some (.inr (.inl 17)), some (.inr (.inl 25)), some (.inl mk), some (.inl i)], [], n0, D0, s77, p0, c0) _
          have e80 : s77 1705 = (s58 1705) := (f79 1705 (by decide))
          have b81 : 0 ≤ (s77 1705) ∧ (s77 1705) ≤ 1 := hS77 1705
          have e82 : s77 1706 = (s58 1706) := (f79 1706 (by decide))
          have b83 : 0 ≤ (s77 1706) ∧ (s77 1706) ≤ 3 := hS77 1706
          have e84 : s77 2500 = (s58 2500) := (f79 2500 (by decide))
          have b85 : 0 ≤ (s77 2500) ∧ (s77 2500) ≤ 64 := hS77 2500
          have e86 : s77 2502 = (s58 2502) := (f79 2502 (by decide))
          have b87 : 0 ≤ (s77 2502) ∧ (s77 2502) ≤ 3 := hS77 2502
          have e88 : s77 2503 = (s58 2503) := (f79 2503 (by decide))
          have b89 : 0 ≤ (s77 2503) ∧ (s77 2503) ≤ 16 := hS77 2503
          have e90 : s77 601 = (s58 601) := (f79 601 (by decide))
          have b91 : 0 ≤ (s77 601) ∧ (s77 601) ≤ 32768 := hS77 601
          have e92 : s77 2001 = (s58 2001) := (f79 2001 (by decide))
          have b93 : 0 ≤ (s77 2001) ∧ (s77 2001) ≤ 100000 := hS77 2001
          refine tt_k 8 (S' := (98, [some (.inr (.inl 17)), some (.inr (.inl 25)), some (.inl mk), some (.inl i)], [.inl ((s77 2502) - (s77 1706)), .inr (.inl 25), .inr (.inl 21)], n0, D0, s77, p0, c0)) rfl ?_
          refine tt_cl (by omega) rfl (g_tellPlane21_25 (Zi := Zi) (q := q) (n := n0) (D := D0) (s := s77) (p := p0) (c := c0) (by omega) hz (by omega) hK0.1 hS77 hC0 hW78 ((s77 2502) - (s77 1706)) (by omega) (show ((s77 2502) - (s77 1706)) < (s77 2502) ∧ 1 ≤ (s77 2500) by omega)) ?_
          rintro _ H1 (⟨s94, p95, c96, rfl, rfl, hS94, hC96, hW97, f98, g99, kf100, k101⟩ | ⟨rfl, hY102⟩)
          rotate_left
          · exact tt_ax rfl (hX12 _ (cX_mono (cX_trx hK0 (fr_wk (show fr s s77 [800, 801, 802, 803, 804, 805, 806, 807, 808, 809, 902, 1705, 1706, 2001, 2002, 2003, 2004, 2106, 2107, 2108, 2109, 2110, 2111, 2112, 2113, 2114, 2115, 2116, 2500, 2501, 2502, 2503] from (fr_tr (fr_tr hF0 f60 (by decide)) f79 (by decide))) (by decide)) hY102 (by decide)) (by omega)))
          have FK103 : fk p c n0 p95 c96 [18, 19, 900, 901, 2103, 2104, 2504] := fk_tr hK0 kf100 (by decide)
          show tt Zi d 16 (101, [some (.inr (.inl 17)), some (.inr (.inl 25)), some (.inl mk), some (.inl i)], [], n0, D0, s94, p95, c96) _
          replace k101 : (s77 2001) ≤ 32768 → (s94 2001) ≤ 32768 := k101
          have b104 : 0 ≤ (s94 2001) ∧ (s94 2001) ≤ 100000 := hS94 2001
          have e105 : s94 1705 = (s77 1705) := (f98 1705 (by decide))
          have b106 : 0 ≤ (s94 1705) ∧ (s94 1705) ≤ 1 := hS94 1705
          have e107 : s94 1706 = (s77 1706) := (f98 1706 (by decide))
          have b108 : 0 ≤ (s94 1706) ∧ (s94 1706) ≤ 3 := hS94 1706
          have e109 : s94 2500 = (s77 2500) := (f98 2500 (by decide))
          have b110 : 0 ≤ (s94 2500) ∧ (s94 2500) ≤ 64 := hS94 2500
          have e111 : s94 2502 = (s77 2502) := (f98 2502 (by decide))
          have b112 : 0 ≤ (s94 2502) ∧ (s94 2502) ≤ 3 := hS94 2502
          have e113 : s94 2503 = (s77 2503) := (f98 2503 (by decide))
          have b114 : 0 ≤ (s94 2503) ∧ (s94 2503) ≤ 16 := hS94 2503
          have e115 : s94 601 = (s77 601) := (f98 601 (by decide))
          have b116 : 0 ≤ (s94 601) ∧ (s94 601) ≤ 32768 := hS94 601
          refine tt_k 2 (S' := (105, [some (.inr (.inl 17)), some (.inr (.inl 25)), some (.inl mk), some (.inl i)], [.inr (.inl 20)], n0, D0, s94, p95, c96)) rfl ?_
          refine tt_cl (by omega) rfl (g_endData (Zi := Zi) (q := q) (n := n0) (D := D0) (s := s94) (p := p95) (c := c96) (by omega) hz (by omega) FK103.1 hS94 hC96 hW97 (show (s94 2001) ≤ 32768 by omega)) ?_
          rintro _ _ ⟨s117, rfl, rfl, hS117, hW118, f119⟩
          show tt Zi d 16 (108, [some (.inr (.inl 17)), some (.inr (.inl 25)), some (.inl mk), some (.inl i)], [], n0, D0, s117, p95, c96) _
          have e120 : s117 1705 = (s94 1705) := (f119 1705 (by decide))
          have b121 : 0 ≤ (s117 1705) ∧ (s117 1705) ≤ 1 := hS117 1705
          have e122 : s117 1706 = (s94 1706) := (f119 1706 (by decide))
          have b123 : 0 ≤ (s117 1706) ∧ (s117 1706) ≤ 3 := hS117 1706
          have e124 : s117 2500 = (s94 2500) := (f119 2500 (by decide))
          have b125 : 0 ≤ (s117 2500) ∧ (s117 2500) ≤ 64 := hS117 2500
          have e126 : s117 2502 = (s94 2502) := (f119 2502 (by decide))
          have b127 : 0 ≤ (s117 2502) ∧ (s117 2502) ≤ 3 := hS117 2502
          have e128 : s117 2503 = (s94 2503) := (f119 2503 (by decide))
          have b129 : 0 ≤ (s117 2503) ∧ (s117 2503) ≤ 16 := hS117 2503
          have e130 : s117 601 = (s94 601) := (f119 601 (by decide))
          have b131 : 0 ≤ (s117 601) ∧ (s117 601) ≤ 32768 := hS117 601
          refine tt_k 9 (S' := (131, [some (.inr (.inl 17)), some (.inr (.inl 25)), some (.inl mk), some (.inl i)], [.inr (.inl 20)], n0, D0, (us s117 1706 ((s117 1706) - 1)), p95, c96)) rfl ?_
          refine tt_cl (by omega) rfl (g_readMark (Zi := Zi) (q := q) (n := n0) (D := D0) (s := (us s117 1706 ((s117 1706) - 1))) (p := p95) (c := c96) (by omega) hz (by omega) FK103.1 (bS_us hS117 (show 0 ≤ ((s117 1706) - 1) ∧ ((s117 1706) - 1) ≤ 3 by omega)) hC96 (wp_us (by decide) hW118) ) ?_
          rintro _ H1 (⟨s132, r133, rfl, rfl, hS132, hW134, f135, b136, k137, k138⟩ | ⟨rfl, hY139⟩)
          rotate_left
          · exact tt_ax rfl (hX12 _ (cX_mono (cX_trx FK103 (fr_wk (show fr s (us s117 1706 ((s117 1706) - 1)) [800, 801, 802, 803, 804, 805, 806, 807, 808, 809, 902, 1705, 1706, 2001, 2002, 2003, 2004, 2106, 2107, 2108, 2109, 2110, 2111, 2112, 2113, 2114, 2115, 2116, 2500, 2501, 2502, 2503] from (fr_us (by decide) (fr_tr (fr_tr (fr_tr (fr_tr hF0 f60 (by decide)) f79 (by decide)) f98 (by decide)) f119 (by decide)))) (by decide)) hY139 (by decide)) (by omega)))
          show tt Zi d 16 (134, [some (.inr (.inl 17)), some (.inr (.inl 25)), some (.inl mk), some (.inl i)], [.inl r133], n0, D0, s132, p95, c96) _
          replace k137 : (s132 2001) ≤ (s117 601) := k137
          replace k138 : 1 ≤ (s132 2001) := k138
          have b140 : 0 ≤ (s132 2001) ∧ (s132 2001) ≤ 100000 := hS132 2001
          have e141 : s132 1705 = (s117 1705) := (f135 1705 (by decide))
          have b142 : 0 ≤ (s132 1705) ∧ (s132 1705) ≤ 1 := hS132 1705
          have e143 : s132 1706 = ((s117 1706) - 1) := (f135 1706 (by decide))
          have b144 : 0 ≤ (s132 1706) ∧ (s132 1706) ≤ 3 := hS132 1706
          have e145 : s132 2500 = (s117 2500) := (f135 2500 (by decide))
          have b146 : 0 ≤ (s132 2500) ∧ (s132 2500) ≤ 64 := hS132 2500
          have e147 : s132 2502 = (s117 2502) := (f135 2502 (by decide))
          have b148 : 0 ≤ (s132 2502) ∧ (s132 2502) ≤ 3 := hS132 2502
          have e149 : s132 2503 = (s117 2503) := (f135 2503 (by decide))
          have b150 : 0 ≤ (s132 2503) ∧ (s132 2503) ≤ 16 := hS132 2503
          have e151 : s132 601 = (s117 601) := (f135 601 (by decide))
          have b152 : 0 ≤ (s132 601) ∧ (s132 601) ≤ 32768 := hS132 601
          refine tt_k 3 (S' := (52, [some (.inr (.inl 17)), some (.inr (.inl 25)), some (.inl r133), some (.inl (i + 1))], [], n0, D0, s132, p95, c96)) rfl ?_
          exact ih r133 (i + 1) n0 D0 s132 p95 c96 (by omega) (by omega) hS132 (fr_tr (fr_us (by decide) (fr_tr (fr_tr (fr_tr (fr_tr hF0 f60 (by decide)) f79 (by decide)) f98 (by decide)) f119 (by decide))) f135 (by decide)) hC96 hW134 (frp_tr hP0 g99 (by decide)) hE0 FK103 (by intro hf; omega) (show (32768 - (i + 1)).toNat < m by omega)
set_option maxRecDepth 100000 in
set_option maxHeartbeats 4000000 in
theorem g_readRow25 {g : Nat → Int} {Zi : Nat → Option (Nat × (Nat → Int))} {d n q : Nat} {D : Nat → Nat × Nat} {s : Nat → Int} {p : Nat → Nat} {c : Nat → Nat → Int} (hd : 9 ≤ d) (hz : zk Zi) (hq : q + 18 ≤ 400000) (hD : wd n p) (hS : bS s) (hC : bC D c) (hW : wp q g n D p s)  : tt Zi d 16 (0, [some (.inr (.inl 17)), some (.inr (.inl 25)), none, none], [], n, D, s, p, c) (fun R H => (∃ (n' : Nat) (D' : Nat → Nat × Nat) (s' : Nat → Int) (p' : Nat → Nat) (c' : Nat → Nat → Int), R = .inl none ∧ H = (n', D', s', p', c') ∧ bS s' ∧ bC D' c' ∧ wp q g n' D' p' s' ∧ fr s s' [800, 801, 802, 803, 804, 805, 806, 807, 808, 809, 902, 1705, 1706, 2001, 2002, 2003, 2004, 2106, 2107, 2108, 2109, 2110, 2111, 2112, 2113, 2114, 2115, 2116, 2500, 2501, 2502, 2503] ∧ frp p p' [900, 901, 2103, 2104, 2105, 2504] ∧ ext n D n' D' ∧ fk p c n' p' c' [18, 19, 900, 901, 2103, 2104, 2504]) ∨ (R = .inr 12 ∧ cX ((q + 1)) g s p c [18, 19, 900, 901, 2103, 2104, 2504] LXR H)) := by
  refine tt_k 2 (S' := (4, [some (.inr (.inl 17)), some (.inr (.inl 25)), none, none], [.inr (.inl 20)], n, D, s, p, c)) rfl ?_
  have b1 : 0 ≤ (s 1705) ∧ (s 1705) ≤ 1 := hS 1705
  have b2 : 0 ≤ (s 1706) ∧ (s 1706) ≤ 3 := hS 1706
  have b3 : 0 ≤ (s 2502) ∧ (s 2502) ≤ 3 := hS 2502
  have b4 : 0 ≤ (s 2500) ∧ (s 2500) ≤ 64 := hS 2500
  have b5 : 0 ≤ (s 2503) ∧ (s 2503) ≤ 16 := hS 2503
  refine tt_cl (by omega) rfl (g_tbegin (Zi := Zi) (q := q) (n := n) (D := D) (s := s) (p := p) (c := c) (by omega) hz (by omega) hD hS hC hW ) ?_
  rintro _ _ ⟨s6, rfl, rfl, hS6, hW7, f8, k9⟩
  show tt Zi d 16 (7, [some (.inr (.inl 17)), some (.inr (.inl 25)), none, none], [], n, D, s6, p, c) _
  replace k9 : (s6 2001) = 0 := k9
  have b10 : 0 ≤ (s6 2001) ∧ (s6 2001) ≤ 100000 := hS6 2001
  have e11 : s6 1705 = (s 1705) := (f8 1705 (by decide))
  have b12 : 0 ≤ (s6 1705) ∧ (s6 1705) ≤ 1 := hS6 1705
  have e13 : s6 1706 = (s 1706) := (f8 1706 (by decide))
  have b14 : 0 ≤ (s6 1706) ∧ (s6 1706) ≤ 3 := hS6 1706
  have e15 : s6 2500 = (s 2500) := (f8 2500 (by decide))
  have b16 : 0 ≤ (s6 2500) ∧ (s6 2500) ≤ 64 := hS6 2500
  have e17 : s6 2502 = (s 2502) := (f8 2502 (by decide))
  have b18 : 0 ≤ (s6 2502) ∧ (s6 2502) ≤ 3 := hS6 2502
  have e19 : s6 2503 = (s 2503) := (f8 2503 (by decide))
  have b20 : 0 ≤ (s6 2503) ∧ (s6 2503) ≤ 16 := hS6 2503
  have e21 : s6 601 = (s 601) := (f8 601 (by decide))
  have b22 : 0 ≤ (s6 601) ∧ (s6 601) ≤ 32768 := hS6 601
  have b23 : 0 ≤ (s 601) ∧ (s 601) ≤ 32768 := hS 601
  refine tt_k 9 (S' := (22, [some (.inr (.inl 17)), some (.inr (.inl 25)), none, none], [.inl 0, .inr (.inl 18)], n, D, (us (us s6 1705 0) 1706 0), p, c)) rfl ?_
  refine tt_cl (by omega) rfl (g_fill (A := 18) (m := 5) (s := (us (us s6 1705 0) 1706 0)) (p := p) rfl (by omega) (by rw [(show bC_lo D 18 = 0 ∧ bC_hi D 18 = 65535 from ⟨rfl, rfl⟩).1, (show bC_lo D 18 = 0 ∧ bC_hi D 18 = 65535 from ⟨rfl, rfl⟩).2]; decide) hC) ?_
  rintro _ _ ⟨c24, rfl, rfl, hC24, fc24, ec24, zc24⟩
  show tt Zi d 16 (25, [some (.inr (.inl 17)), some (.inr (.inl 25)), none, none], [], n, D, (us (us s6 1705 0) 1706 0), p, c24) _
  have FK25 : fk p c n p c24 [18, 19, 900, 901, 2103, 2104, 2504] := fk_st (k := 18) (fk_rf hD) ec24 (by decide) rfl
  refine tt_k 2 (S' := (29, [some (.inr (.inl 17)), some (.inr (.inl 25)), none, none], [.inr (.inl 20)], n, D, (us (us s6 1705 0) 1706 0), p, c24)) rfl ?_
  refine tt_cl (by omega) rfl (g_readMark (Zi := Zi) (q := q) (n := n) (D := D) (s := (us (us s6 1705 0) 1706 0)) (p := p) (c := c24) (by omega) hz (by omega) FK25.1 (bS_us (bS_us hS6 (show 0 ≤ 0 ∧ 0 ≤ 1 by omega)) (show 0 ≤ 0 ∧ 0 ≤ 3 by omega)) hC24 (wp_us (by decide) (wp_us (by decide) hW7)) ) ?_
  rintro _ H1 (⟨s26, r27, rfl, rfl, hS26, hW28, f29, b30, k31, k32⟩ | ⟨rfl, hY33⟩)
  rotate_left
  · exact tt_ax rfl (Or.inr ⟨rfl, cX_mono (cX_trx FK25 (show fr s (us (us s6 1705 0) 1706 0) LXR from (fr_us (by decide) (fr_us (by decide) (fr_tr fr_rf f8 (by decide))))) hY33 (by decide)) (by omega)⟩)
  show tt Zi d 16 (32, [some (.inr (.inl 17)), some (.inr (.inl 25)), none, none], [.inl r27], n, D, s26, p, c24) _
  replace k31 : (s26 2001) ≤ (s6 601) := k31
  replace k32 : 1 ≤ (s26 2001) := k32
  have b34 : 0 ≤ (s26 2001) ∧ (s26 2001) ≤ 100000 := hS26 2001
  have e35 : s26 1705 = 0 := (f29 1705 (by decide))
  have b36 : 0 ≤ (s26 1705) ∧ (s26 1705) ≤ 1 := hS26 1705
  have e37 : s26 1706 = 0 := (f29 1706 (by decide))
  have b38 : 0 ≤ (s26 1706) ∧ (s26 1706) ≤ 3 := hS26 1706
  have e39 : s26 2500 = (s6 2500) := (f29 2500 (by decide))
  have b40 : 0 ≤ (s26 2500) ∧ (s26 2500) ≤ 64 := hS26 2500
  have e41 : s26 2502 = (s6 2502) := (f29 2502 (by decide))
  have b42 : 0 ≤ (s26 2502) ∧ (s26 2502) ≤ 3 := hS26 2502
  have e43 : s26 2503 = (s6 2503) := (f29 2503 (by decide))
  have b44 : 0 ≤ (s26 2503) ∧ (s26 2503) ≤ 16 := hS26 2503
  have e45 : s26 601 = (s6 601) := (f29 601 (by decide))
  have b46 : 0 ≤ (s26 601) ∧ (s26 601) ≤ 32768 := hS26 601
  refine tt_k 1 (S' := (35, [some (.inr (.inl 17)), some (.inr (.inl 25)), none, none], [.inl 216, .inl r27], n, D, s26, p, c24)) rfl ?_
  refine tb_eq (x := r27) (y := 216) rfl rfl (by omega) (fun h47 => ?_) (fun h47 => ?_)
  · show tt Zi d 16 (42, [some (.inr (.inl 17)), some (.inr (.inl 25)), none, none], [], n, D, s26, p, c24) _
    refine tt_k 2 (S' := (46, [some (.inr (.inl 17)), some (.inr (.inl 25)), none, none], [.inr (.inl 20)], n, D, s26, p, c24)) rfl ?_
    refine tt_cl (by omega) rfl (g_readMark (Zi := Zi) (q := q) (n := n) (D := D) (s := s26) (p := p) (c := c24) (by omega) hz (by omega) FK25.1 hS26 hC24 hW28 ) ?_
    rintro _ H1 (⟨s48, r49, rfl, rfl, hS48, hW50, f51, b52, k53, k54⟩ | ⟨rfl, hY55⟩)
    rotate_left
    · exact tt_ax rfl (Or.inr ⟨rfl, cX_mono (cX_trx FK25 (show fr s s26 LXR from (fr_tr (fr_us (by decide) (fr_us (by decide) (fr_tr fr_rf f8 (by decide)))) f29 (by decide))) hY55 (by decide)) (by omega)⟩)
    show tt Zi d 16 (49, [some (.inr (.inl 17)), some (.inr (.inl 25)), none, none], [.inl r49], n, D, s48, p, c24) _
    replace k53 : (s48 2001) ≤ (s26 601) := k53
    replace k54 : 1 ≤ (s48 2001) := k54
    have b56 : 0 ≤ (s48 2001) ∧ (s48 2001) ≤ 100000 := hS48 2001
    have e57 : s48 1705 = (s26 1705) := (f51 1705 (by decide))
    have b58 : 0 ≤ (s48 1705) ∧ (s48 1705) ≤ 1 := hS48 1705
    have e59 : s48 1706 = (s26 1706) := (f51 1706 (by decide))
    have b60 : 0 ≤ (s48 1706) ∧ (s48 1706) ≤ 3 := hS48 1706
    have e61 : s48 2500 = (s26 2500) := (f51 2500 (by decide))
    have b62 : 0 ≤ (s48 2500) ∧ (s48 2500) ≤ 64 := hS48 2500
    have e63 : s48 2502 = (s26 2502) := (f51 2502 (by decide))
    have b64 : 0 ≤ (s48 2502) ∧ (s48 2502) ≤ 3 := hS48 2502
    have e65 : s48 2503 = (s26 2503) := (f51 2503 (by decide))
    have b66 : 0 ≤ (s48 2503) ∧ (s48 2503) ≤ 16 := hS48 2503
    have e67 : s48 601 = (s26 601) := (f51 601 (by decide))
    have b68 : 0 ≤ (s48 601) ∧ (s48 601) ≤ 32768 := hS48 601
    refine tt_k 3 (S' := (52, [some (.inr (.inl 17)), some (.inr (.inl 25)), some (.inl r49), some (.inl 0)], [], n, D, s48, p, c24)) rfl ?_
    refine g_readRow25_L52 (Zi := Zi) (q := q) (n := n) (D := D) (s := s48) (p := p) (c := c24) hd hz (by omega) FK25.1 hS48 hC24 hW50     (fun H h => (Or.inr ⟨rfl, cX_mono (cX_trx FK25 (show fr s s48 LXR from (fr_tr (fr_tr (fr_us (by decide) (fr_us (by decide) (fr_tr fr_rf f8 (by decide)))) f29 (by decide)) f51 (by decide))) h (by decide)) (by omega)⟩)) ?_ _ r49 0 n D s48 p c24 (by omega) (by omega) hS48 fr_rf hC24 hW50 frp_rf ext_rf (fk_rf FK25.1) (by intro hf; omega) (Nat.lt_succ_self _)
    intro x69 x70 n71 D72 s73 p74 c75 b76 b77 hS73 f78 hC75 hW79 g80 xe81 kf82 i83 hx84
    show tt Zi d 16 (141, [some (.inr (.inl 17)), some (.inr (.inl 25)), some (.inl x69), some (.inl x70)], [], n71, D72, s73, p74, c75) _
    have FK85 : fk p c n71 p74 c75 [18, 19, 900, 901, 2103, 2104, 2504] := fk_tr FK25 kf82 (by decide)
    replace i83 : (s73 1705) = 1 → (1 ≤ (s73 2500) ∧ 2 ≤ (s73 2503) ∧ (s73 1706) ≤ (s73 2502)) := i83
    have b86 : 0 ≤ (s73 1705) ∧ (s73 1705) ≤ 1 := hS73 1705
    have b87 : 0 ≤ (s73 2500) ∧ (s73 2500) ≤ 64 := hS73 2500
    have b88 : 0 ≤ (s73 2503) ∧ (s73 2503) ≤ 16 := hS73 2503
    have b89 : 0 ≤ (s73 1706) ∧ (s73 1706) ≤ 3 := hS73 1706
    have b90 : 0 ≤ (s73 2502) ∧ (s73 2502) ≤ 3 := hS73 2502
    have e91 : s73 601 = (s48 601) := (f78 601 (by decide))
    have b92 : 0 ≤ (s73 601) ∧ (s73 601) ≤ 32768 := hS73 601
    refine tt_k 2 (S' := (145, [some (.inr (.inl 17)), some (.inr (.inl 25)), some (.inl x69), some (.inl x70)], [.inl (s73 1705)], n71, D72, s73, p74, c75)) rfl ?_
    refine tz_eq (x := (s73 1705)) rfl rfl (by omega) (fun h93 => ?_) (fun h93 => ?_)
    · show tt Zi d 16 (155, [some (.inr (.inl 17)), some (.inr (.inl 25)), some (.inl x69), some (.inl x70)], [], n71, D72, s73, p74, c75) _
      refine tt_k 1 (S' := (156, [some (.inr (.inl 17)), some (.inr (.inl 25)), some (.inl x69), some (.inl x70)], [.inr (.inl 17)], n71, D72, s73, p74, c75)) rfl ?_
      refine tt_cl (by omega) rfl (g_refuseMark (Zi := Zi) (q := q) (n := n71) (D := D72) (s := s73) (p := p74) (c := c75) (by omega) hz (by omega) FK85.1 hS73 hC75 hW79 ) ?_
      rintro _ H1 (hF | ⟨rfl, hY94⟩)
      · exact hF.elim
      · exact tt_ax rfl (Or.inr ⟨rfl, cX_mono (cX_trx FK85 (show fr s s73 LXR from (fr_tr (fr_tr (fr_tr (fr_us (by decide) (fr_us (by decide) (fr_tr fr_rf f8 (by decide)))) f29 (by decide)) f51 (by decide)) f78 (by decide))) hY94 (by decide)) (by omega)⟩)
    · show tt Zi d 16 (148, [some (.inr (.inl 17)), some (.inr (.inl 25)), some (.inl x69), some (.inl x70)], [], n71, D72, s73, p74, c75) _
      refine tt_k 2 (S' := (152, [some (.inr (.inl 17)), some (.inr (.inl 25)), some (.inl x69), some (.inl x70)], [.inl (s73 1706)], n71, D72, s73, p74, c75)) rfl ?_
      refine tz_le (x := (s73 1706)) rfl rfl (by omega) (fun h95 => ?_) (fun h95 => ?_)
      · show tt Zi d 16 (159, [some (.inr (.inl 17)), some (.inr (.inl 25)), some (.inl x69), some (.inl x70)], [], n71, D72, s73, p74, c75) _
        refine tt_k 2 (S' := (163, [some (.inr (.inl 17)), some (.inr (.inl 25)), some (.inl x69), some (.inl x70)], [.inr (.inl 20)], n71, D72, s73, p74, c75)) rfl ?_
        refine tt_cl (by omega) rfl (g_checkAll (Zi := Zi) (q := q) (n := n71) (D := D72) (s := s73) (p := p74) (c := c75) (by omega) hz (by omega) FK85.1 hS73 hC75 hW79 ) ?_
        rintro _ H1 (⟨rfl, rfl⟩ | ⟨rfl, hY96⟩)
        rotate_left
        · exact tt_ax rfl (Or.inr ⟨rfl, cX_mono (cX_trx FK85 (show fr s s73 LXR from (fr_tr (fr_tr (fr_tr (fr_us (by decide) (fr_us (by decide) (fr_tr fr_rf f8 (by decide)))) f29 (by decide)) f51 (by decide)) f78 (by decide))) hY96 (by decide)) (by omega)⟩)
        show tt Zi d 16 (166, [some (.inr (.inl 17)), some (.inr (.inl 25)), some (.inl x69), some (.inl x70)], [], n71, D72, s73, p74, c75) _
        exact tt_rtv rfl rfl (Or.inl ⟨n71, D72, s73, p74, c75, rfl, rfl, hS73, hC75, hW79, (fr_tr (fr_tr (fr_tr (fr_us (by decide) (fr_us (by decide) (fr_tr fr_rf f8 (by decide)))) f29 (by decide)) f51 (by decide)) f78 (by decide)), (frp_tr frp_rf g80 (by decide)), (ext_tr ext_rf xe81), FK85⟩)
      · show tt Zi d 16 (155, [some (.inr (.inl 17)), some (.inr (.inl 25)), some (.inl x69), some (.inl x70)], [], n71, D72, s73, p74, c75) _
        refine tt_k 1 (S' := (156, [some (.inr (.inl 17)), some (.inr (.inl 25)), some (.inl x69), some (.inl x70)], [.inr (.inl 17)], n71, D72, s73, p74, c75)) rfl ?_
        refine tt_cl (by omega) rfl (g_refuseMark (Zi := Zi) (q := q) (n := n71) (D := D72) (s := s73) (p := p74) (c := c75) (by omega) hz (by omega) FK85.1 hS73 hC75 hW79 ) ?_
        rintro _ H1 (hF | ⟨rfl, hY97⟩)
        · exact hF.elim
        · exact tt_ax rfl (Or.inr ⟨rfl, cX_mono (cX_trx FK85 (show fr s s73 LXR from (fr_tr (fr_tr (fr_tr (fr_us (by decide) (fr_us (by decide) (fr_tr fr_rf f8 (by decide)))) f29 (by decide)) f51 (by decide)) f78 (by decide))) hY97 (by decide)) (by omega)⟩)
  · show tt Zi d 16 (38, [some (.inr (.inl 17)), some (.inr (.inl 25)), none, none], [], n, D, s26, p, c24) _
    refine tt_k 1 (S' := (39, [some (.inr (.inl 17)), some (.inr (.inl 25)), none, none], [.inr (.inl 17)], n, D, s26, p, c24)) rfl ?_
    refine tt_cl (by omega) rfl (g_refuseMark (Zi := Zi) (q := q) (n := n) (D := D) (s := s26) (p := p) (c := c24) (by omega) hz (by omega) FK25.1 hS26 hC24 hW28 ) ?_
    rintro _ H1 (hF | ⟨rfl, hY98⟩)
    · exact hF.elim
    · exact tt_ax rfl (Or.inr ⟨rfl, cX_mono (cX_trx FK25 (show fr s s26 LXR from (fr_tr (fr_us (by decide) (fr_us (by decide) (fr_tr fr_rf f8 (by decide)))) f29 (by decide))) hY98 (by decide)) (by omega)⟩)
