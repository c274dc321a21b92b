/-! the class's tape, byte by byte -/
def wrt (W : WT) (z : Int) (f : Nat → Int) : Prop := wrb W z f
def pTy : Nat → Int → WT → WT
  | 0, _, W => W
  | n + 1, v, W => pTy n v (wAdd W (mi_shr v (8 * (n : Int))))
theorem pTy_4 {v : Int} {W : WT} (hv : -2147483648 ≤ v ∧ v ≤ 2147483647) : pTy 4 v W = wAdd (wAdd (wAdd (wAdd W (mi_shr (mi_shr v 16) 8)) (mi_shr v 16)) (mi_shr v 8)) v := by
  have h24 := mi_shr_div (x := v) (k := 24) hv (by decide) (by decide)
  have h16 := mi_shr_div (x := v) (k := 16) hv (by decide) (by decide)
  have h0 := mi_shr_div (x := v) (k := 0) hv (by decide) (by decide)
  have h8 := mi_shr_div (x := mi_shr v 16) (k := 8) (mi_rg _) (by decide) (by decide)
  have e1 : mi_shr (mi_shr v 16) 8 = mi_shr v 24 := by
    rw [h8, h16, h24]
    have p1 : (2 : Int) ^ (16 : Int).toNat = 65536 := by decide
    have p2 : (2 : Int) ^ (8 : Int).toNat = 256 := by decide
    have p3 : (2 : Int) ^ (24 : Int).toNat = 16777216 := by decide
    rw [p1, p2, p3]
    omega
  have e0 : mi_shr v 0 = v := by
    rw [h0]
    exact Int.ediv_one v
  show wAdd (wAdd (wAdd (wAdd W (mi_shr v 24)) (mi_shr v 16)) (mi_shr v 8)) (mi_shr v 0) = _
  rw [e1, e0]
theorem wrt_ad {W : WT} {z v : Int} {f g : Nat → Int} (hw : wrt W z f) (hz : 0 ≤ z) (h1 : ∀ i : Nat, (i : Int) < z → g i = f i) (h2 : g z.toNat = nb v) : wrt (wAdd W v) (z + 1) g := wrb_l (wrl_ad (v := v) (wrb_w hw W.2.2.1 W.2.2.2) hz h1 h2)
theorem vc_at {f g : Nat → Int} {k : Int} {i : Nat} (h : (i : Int) < k) : va_cpy f g (0 : Int).toNat (0 : Int).toNat k.toNat i = f i := by
  unfold va_cpy
  rw [if_pos (by constructor <;> omega)]
  congr 1
  omega
theorem mi_xor_b {x y : Int} (hx : 0 ≤ x ∧ x ≤ 255) (hy : 0 ≤ y ∧ y ≤ 255) : 0 ≤ mi_xor x y ∧ mi_xor x y ≤ 255 := by
  have hn : ∀ x : Int, 0 ≤ x ∧ x ≤ 255 → (Int32.ofInt x).toBitVec.toNat < 2 ^ 8 := by
    intro x hx
    have e : (Int32.ofInt x).toInt = x := mi_ti (by omega)
    have e2 : (Int32.ofInt x).toBitVec.toInt = x := e
    rw [BitVec.toInt_eq_toNat_cond] at e2
    have hl := (Int32.ofInt x).toBitVec.isLt
    split at e2 <;> omega
  have h3 : (Int32.ofInt x ^^^ Int32.ofInt y).toBitVec.toNat < 2 ^ 8 := by
    rw [Int32.toBitVec_xor, BitVec.toNat_xor]
    exact Nat.xor_lt_two_pow (hn x hx) (hn y hy)
  have e : mi_xor x y = ((Int32.ofInt x ^^^ Int32.ofInt y).toBitVec.toNat : Int) := by
    show (Int32.ofInt x ^^^ Int32.ofInt y).toBitVec.toInt = _
    rw [BitVec.toInt_eq_toNat_cond, if_pos (by omega)]
  rw [e]
  omega
theorem nb_xor {b y : Int} : nb (mi_xor (mi_and b 255) y) = nb (mi_xor b y) := by
  have e : ∀ a : Int8, a &&& (Int32.ofInt 255).toInt8 = a := by
    intro a
    apply Int8.toBitVec_inj.1
    rw [Int8.toBitVec_and]
    have e2 : (Int32.ofInt 255).toInt8.toBitVec = BitVec.allOnes 8 := by decide
    rw [e2, BitVec.and_allOnes]
  unfold nb mi_i2b mi_xor mi_and
  rw [Int32.ofInt_toInt, Int32.ofInt_toInt, Int32.ofInt_toInt, Int32.toInt8_xor, Int32.toInt8_xor, Int32.toInt8_and, e]
/-- what a change gives: the class's number and the reference's -/
theorem ch_v {b y : Int} (hb : -128 ≤ b ∧ b ≤ 127) (hy : 0 ≤ y ∧ y ≤ 255) : mi_xor (mi_and b 255) y = mi_and (nb (mi_xor b y)) 255 := by
  have h1 : 0 ≤ mi_and b 255 ∧ mi_and b 255 ≤ 255 := by
    rw [mi_and255]
    omega
  have h2 := mi_xor_b h1 hy
  rw [mi_and255 (x := nb (mi_xor b y)), ← nb_xor, nb_256 h2]
theorem mi_nb_id {x : Int} (h : -128 ≤ x ∧ x ≤ 127) : mi_nb x = x := by
  have hq : ∀ q : Nat, q < 256 → mi_nb ((q : Int) - 128) = (q : Int) - 128 := by decide +kernel
  have h1 := hq (x + 128).toNat (by omega)
  rw [show ((x + 128).toNat : Int) - 128 = x by omega] at h1
  exact h1
set_option maxRecDepth 100000 in
set_option maxHeartbeats 4000000 in
theorem e_add6w {g : Nat → Int} {Zi : Nat → Option (Nat × (Nat → Int))} {d n q : Nat} {D : Nat → Nat × Nat} {s : Nat → Int} {p : Nat → Nat} {c : Nat → Nat → Int} (hd : 1 ≤ d) (hz : zk Zi) (hq : q + 2 ≤ 400000) (hD : wd n p) (hS : bS s) (hC : bC D c) (hW : wp q g n D p s) (W : WT) (v : Int) (b_v : -2147483648 ≤ v ∧ v ≤ 2147483647) (hp0 : s 601 ≤ 32767) (hp1 : wrt W (s 601) (c (p 600))) : tt Zi d 48 (0, [some (.inr (.inl 6)), some (.inl v)], [], n, D, s, p, c) (fun R H => ∃ (n' : Nat) (D' : Nat → Nat × Nat) (s' : Nat → Int) (p' : Nat → Nat) (c' : Nat → Nat → Int), R = .inl none ∧ H = (n', D', s', p', c') ∧ bS s' ∧ bC D' c' ∧ wp q g n' D' p' s' ∧ fr s s' [601] ∧ frp p p' [600] ∧ ext n D n' D' ∧ fk p c n' p' c' [600] ∧ (s' 601 = s 601 + 1) ∧ (wrt (wAdd W v) (s' 601) (c' (p' 600)))) := by
  refine tt_mono (e_add6 (Zi := Zi) (q := q) (n := n) (D := D) (s := s) (p := p) (c := c) hd hz hq hD hS hC hW v b_v hp0) ?_
  rintro _ _ ⟨n1, D1, s1, p1, c1, rfl, rfl, hS1, hC1, hW1, f, fp, ex, kf, k0, k1, k2⟩
  refine ⟨n1, D1, s1, p1, c1, rfl, rfl, hS1, hC1, hW1, f, fp, ex, kf, k0, ?_⟩
  have hs0 : 0 ≤ s 601 := (hS 601).1
  rw [k0]
  exact wrt_ad hp1 hs0 k1 k2
set_option maxRecDepth 100000 in
set_option maxHeartbeats 4000000 in
theorem e_addTwo6w {g : Nat → Int} {Zi : Nat → Option (Nat × (Nat → Int))} {d n q : Nat} {D : Nat → Nat × Nat} {s : Nat → Int} {p : Nat → Nat} {c : Nat → Nat → Int} (hd : 2 ≤ d) (hz : zk Zi) (hq : q + 4 ≤ 400000) (hD : wd n p) (hS : bS s) (hC : bC D c) (hW : wp q g n D p s) (W : WT) (v : Int) (b_v : -2147483648 ≤ v ∧ v ≤ 2147483647) (hp0 : s 601 ≤ 32766) (hp1 : wrt W (s 601) (c (p 600))) : tt Zi d 110 (0, [some (.inr (.inl 6)), some (.inl v)], [], n, D, s, p, c) (fun R H => ∃ (n' : Nat) (D' : Nat → Nat × Nat) (s' : Nat → Int) (p' : Nat → Nat) (c' : Nat → Nat → Int), R = .inl none ∧ H = (n', D', s', p', c') ∧ bS s' ∧ bC D' c' ∧ wp q g n' D' p' s' ∧ fr s s' [601] ∧ frp p p' [600] ∧ ext n D n' D' ∧ fk p c n' p' c' [600] ∧ (s' 601 = s 601 + 2) ∧ (wrt (wAdd (wAdd W (mi_shr v 8)) v) (s' 601) (c' (p' 600)))) := by
  refine tt_k 4 (S' := (5, [some (.inr (.inl 6)), some (.inl v)], [.inl (mi_shr v 8), .inr (.inl 6)], n, D, s, p, c)) rfl ?_
  have e1 := mi_shr_bd v 8
  have b2 : 0 ≤ (s 601) ∧ (s 601) ≤ 32768 := hS 601
  refine tt_cl (by omega) rfl (e_add6w (Zi := Zi) (q := q) (n := n) (D := D) (s := s) (p := p) (c := c) (by omega) hz (by omega) hD hS hC hW W (mi_shr v 8) (by omega) (show (s 601) ≤ 32767 by omega) hp1) ?_
  rintro _ _ ⟨n3, D4, s5, p6, c7, rfl, rfl, hS5, hC7, hW8, f9, g10, xe11, kf12, k13, k14⟩
  have FK15 : fk p c n3 p6 c7 [600] := fk_tr (fk_rf hD) kf12 (by decide)
  show tt Zi d 110 (8, [some (.inr (.inl 6)), some (.inl v)], [], n3, D4, s5, p6, c7) _
  replace k13 : (s5 601) = (s 601) + 1 := k13
  have b16 : 0 ≤ (s5 601) ∧ (s5 601) ≤ 32768 := hS5 601
  refine tt_k 2 (S' := (10, [some (.inr (.inl 6)), some (.inl v)], [.inl v, .inr (.inl 6)], n3, D4, s5, p6, c7)) rfl ?_
  refine tt_cl (by omega) rfl (e_add6w (Zi := Zi) (q := q) (n := n3) (D := D4) (s := s5) (p := p6) (c := c7) (by omega) hz (by omega) FK15.1 hS5 hC7 hW8 (wAdd W (mi_shr v 8)) v (by omega) (show (s5 601) ≤ 32767 by omega) k14) ?_
  rintro _ _ ⟨n17, D18, s19, p20, c21, rfl, rfl, hS19, hC21, hW22, f23, g24, xe25, kf26, k27, k28⟩
  have FK29 : fk p c n17 p20 c21 [600] := fk_tr FK15 kf26 (by decide)
  show tt Zi d 110 (13, [some (.inr (.inl 6)), some (.inl v)], [], n17, D18, s19, p20, c21) _
  replace k27 : (s19 601) = (s5 601) + 1 := k27
  have b30 : 0 ≤ (s19 601) ∧ (s19 601) ≤ 32768 := hS19 601
  exact tt_rtv rfl rfl ⟨n17, D18, s19, p20, c21, rfl, rfl, hS19, hC21, hW22, (fr_tr (fr_tr fr_rf f9 (by decide)) f23 (by decide)), (frp_tr (frp_tr frp_rf g10 (by decide)) g24 (by decide)), (ext_tr (ext_tr ext_rf xe11) xe25), FK29, by show (s19 601) = s 601 + 2; omega, k28⟩
set_option maxRecDepth 100000 in
set_option maxHeartbeats 4000000 in
theorem e_addFour6w {g : Nat → Int} {Zi : Nat → Option (Nat × (Nat → Int))} {d n q : Nat} {D : Nat → Nat × Nat} {s : Nat → Int} {p : Nat → Nat} {c : Nat → Nat → Int} (hd : 3 ≤ d) (hz : zk Zi) (hq : q + 6 ≤ 400000) (hD : wd n p) (hS : bS s) (hC : bC D c) (hW : wp q g n D p s) (W : WT) (v : Int) (b_v : -2147483648 ≤ v ∧ v ≤ 2147483647) (hp0 : s 601 ≤ 32764) (hp1 : wrt W (s 601) (c (p 600))) : tt Zi d 119 (0, [some (.inr (.inl 6)), some (.inl v)], [], n, D, s, p, c) (fun R H => ∃ (n' : Nat) (D' : Nat → Nat × Nat) (s' : Nat → Int) (p' : Nat → Nat) (c' : Nat → Nat → Int), R = .inl none ∧ H = (n', D', s', p', c') ∧ bS s' ∧ bC D' c' ∧ wp q g n' D' p' s' ∧ fr s s' [601] ∧ frp p p' [600] ∧ ext n D n' D' ∧ fk p c n' p' c' [600] ∧ (s' 601 = s 601 + 4) ∧ (wrt (pTy 4 v W) (s' 601) (c' (p' 600)))) := by
  refine tt_k 4 (S' := (5, [some (.inr (.inl 6)), some (.inl v)], [.inl (mi_shr v 16), .inr (.inl 6)], n, D, s, p, c)) rfl ?_
  have e1 := mi_shr_bd v 16
  have b2 : 0 ≤ (s 601) ∧ (s 601) ≤ 32768 := hS 601
  refine tt_cl (by omega) rfl (e_addTwo6w (Zi := Zi) (q := q) (n := n) (D := D) (s := s) (p := p) (c := c) (by omega) hz (by omega) hD hS hC hW W (mi_shr v 16) (by omega) (show (s 601) ≤ 32766 by omega) hp1) ?_
  rintro _ _ ⟨n3, D4, s5, p6, c7, rfl, rfl, hS5, hC7, hW8, f9, g10, xe11, kf12, k13, k14⟩
  have FK15 : fk p c n3 p6 c7 [600] := fk_tr (fk_rf hD) kf12 (by decide)
  show tt Zi d 119 (8, [some (.inr (.inl 6)), some (.inl v)], [], n3, D4, s5, p6, c7) _
  replace k13 : (s5 601) = (s 601) + 2 := k13
  have b16 : 0 ≤ (s5 601) ∧ (s5 601) ≤ 32768 := hS5 601
  refine tt_k 2 (S' := (10, [some (.inr (.inl 6)), some (.inl v)], [.inl v, .inr (.inl 6)], n3, D4, s5, p6, c7)) rfl ?_
  refine tt_cl (by omega) rfl (e_addTwo6w (Zi := Zi) (q := q) (n := n3) (D := D4) (s := s5) (p := p6) (c := c7) (by omega) hz (by omega) FK15.1 hS5 hC7 hW8 (wAdd (wAdd W (mi_shr (mi_shr v 16) 8)) (mi_shr v 16)) v (by omega) (show (s5 601) ≤ 32766 by omega) k14) ?_
  rintro _ _ ⟨n17, D18, s19, p20, c21, rfl, rfl, hS19, hC21, hW22, f23, g24, xe25, kf26, k27, k28⟩
  have FK29 : fk p c n17 p20 c21 [600] := fk_tr FK15 kf26 (by decide)
  show tt Zi d 119 (13, [some (.inr (.inl 6)), some (.inl v)], [], n17, D18, s19, p20, c21) _
  replace k27 : (s19 601) = (s5 601) + 2 := k27
  have b30 : 0 ≤ (s19 601) ∧ (s19 601) ≤ 32768 := hS19 601
  exact tt_rtv rfl rfl ⟨n17, D18, s19, p20, c21, rfl, rfl, hS19, hC21, hW22, (fr_tr (fr_tr fr_rf f9 (by decide)) f23 (by decide)), (frp_tr (frp_tr frp_rf g10 (by decide)) g24 (by decide)), (ext_tr (ext_tr ext_rf xe11) xe25), FK29, by show (s19 601) = s 601 + 4; omega, by show wrt (pTy 4 v W) ((s19 601)) (c21 (p20 600)); rw [pTy_4 (by omega)]; exact k28⟩
set_option maxRecDepth 100000 in
set_option maxHeartbeats 4000000 in
theorem e_feedw {g : Nat → Int} {Zi : Nat → Option (Nat × (Nat → Int))} {d n q : Nat} {D : Nat → Nat × Nat} {s : Nat → Int} {p : Nat → Nat} {c : Nat → Nat → Int} (hd : 4 ≤ d) (hz : zk Zi) (hq : q + 8 ≤ 400000) (hD : wd n p) (hS : bS s) (hC : bC D c) (hW : wp q g n D p s) (W : WT) (a1 : Int) (a2 : Int) (a3 : Int) (a4 : Int) (a5 : Int) (b_a1 : -2147483648 ≤ a1 ∧ a1 ≤ 2147483647) (b_a2 : -2147483648 ≤ a2 ∧ a2 ≤ 2147483647) (b_a3 : -2147483648 ≤ a3 ∧ a3 ≤ 2147483647) (b_a4 : -2147483648 ≤ a4 ∧ a4 ≤ 2147483647) (b_a5 : -2147483648 ≤ a5 ∧ a5 ≤ 2147483647) (hp0 : wrt W (s 601) (c (p 600))) : tt Zi d 118 (0, [some (.inr (.inl 0)), some (.inl a1), some (.inl a2), some (.inl a3), some (.inl a4), some (.inl a5)], [], n, D, s, p, c) (fun R H => (∃ r : Int, R = .inl (some (.inl r)) ∧ (0 ≤ r ∧ r ≤ 32768) ∧ cXp (q + 1) g s p c [600] [601] H ∧ (s 601 + 20 ≤ 32768) ∧ (r = H.2.2.1 601) ∧ (H.2.2.1 601 = s 601 + 20) ∧ (wrt (pTy 4 a5 (pTy 4 a4 (pTy 4 a3 (pTy 4 a2 (pTy 4 a1 W))))) (H.2.2.1 601) (H.2.2.2.2 (H.2.2.2.1 600)))) ∨ (R = .inr 12 ∧ cXp (q + 1) g s p c [] [800, 801, 802, 803, 804, 805, 806, 807, 808, 809] H ∧ ¬ (s 601 + 20 ≤ 32768))) := by
  refine tt_k 6 (S' := (12, [some (.inr (.inl 0)), some (.inl a1), some (.inl a2), some (.inl a3), some (.inl a4), some (.inl a5)], [.inl 32768, .inl ((s 601) + 20)], n, D, s, p, c)) rfl ?_
  have b1 : 0 ≤ (s 601) ∧ (s 601) ≤ 32768 := hS 601
  refine tb_le (x := ((s 601) + 20)) (y := 32768) rfl rfl (by omega) (fun h2 => ?_) (fun h2 => ?_)
  · show tt Zi d 118 (23, [some (.inr (.inl 0)), some (.inl a1), some (.inl a2), some (.inl a3), some (.inl a4), some (.inl a5)], [], n, D, s, p, c) _
    refine tt_k 3 (S' := (28, [some (.inr (.inl 0)), some (.inl a1), some (.inl a2), some (.inl a3), some (.inl a4), some (.inl a5)], [.inl a1, .inr (.inl 6)], n, D, s, p, c)) rfl ?_
    refine tt_cl (by omega) rfl (e_addFour6w (Zi := Zi) (q := q) (n := n) (D := D) (s := s) (p := p) (c := c) (by omega) hz (by omega) hD hS hC hW W a1 (by omega) (show (s 601) ≤ 32764 by omega) hp0) ?_
    rintro _ _ ⟨n3, D4, s5, p6, c7, rfl, rfl, hS5, hC7, hW8, f9, g10, xe11, kf12, k13, k14⟩
    have FK15 : fk p c n3 p6 c7 [600] := fk_tr (fk_rf hD) kf12 (by decide)
    show tt Zi d 118 (31, [some (.inr (.inl 0)), some (.inl a1), some (.inl a2), some (.inl a3), some (.inl a4), some (.inl a5)], [], n3, D4, s5, p6, c7) _
    replace k13 : (s5 601) = (s 601) + 4 := k13
    have b16 : 0 ≤ (s5 601) ∧ (s5 601) ≤ 32768 := hS5 601
    refine tt_k 3 (S' := (36, [some (.inr (.inl 0)), some (.inl a1), some (.inl a2), some (.inl a3), some (.inl a4), some (.inl a5)], [.inl a2, .inr (.inl 6)], n3, D4, s5, p6, c7)) rfl ?_
    refine tt_cl (by omega) rfl (e_addFour6w (Zi := Zi) (q := q) (n := n3) (D := D4) (s := s5) (p := p6) (c := c7) (by omega) hz (by omega) FK15.1 hS5 hC7 hW8 (pTy 4 a1 W) a2 (by omega) (show (s5 601) ≤ 32764 by omega) k14) ?_
    rintro _ _ ⟨n17, D18, s19, p20, c21, rfl, rfl, hS19, hC21, hW22, f23, g24, xe25, kf26, k27, k28⟩
    have FK29 : fk p c n17 p20 c21 [600] := fk_tr FK15 kf26 (by decide)
    show tt Zi d 118 (39, [some (.inr (.inl 0)), some (.inl a1), some (.inl a2), some (.inl a3), some (.inl a4), some (.inl a5)], [], n17, D18, s19, p20, c21) _
    replace k27 : (s19 601) = (s5 601) + 4 := k27
    have b30 : 0 ≤ (s19 601) ∧ (s19 601) ≤ 32768 := hS19 601
    refine tt_k 3 (S' := (44, [some (.inr (.inl 0)), some (.inl a1), some (.inl a2), some (.inl a3), some (.inl a4), some (.inl a5)], [.inl a3, .inr (.inl 6)], n17, D18, s19, p20, c21)) rfl ?_
    refine tt_cl (by omega) rfl (e_addFour6w (Zi := Zi) (q := q) (n := n17) (D := D18) (s := s19) (p := p20) (c := c21) (by omega) hz (by omega) FK29.1 hS19 hC21 hW22 (pTy 4 a2 (pTy 4 a1 W)) a3 (by omega) (show (s19 601) ≤ 32764 by omega) k28) ?_
    rintro _ _ ⟨n31, D32, s33, p34, c35, rfl, rfl, hS33, hC35, hW36, f37, g38, xe39, kf40, k41, k42⟩
    have FK43 : fk p c n31 p34 c35 [600] := fk_tr FK29 kf40 (by decide)
    show tt Zi d 118 (47, [some (.inr (.inl 0)), some (.inl a1), some (.inl a2), some (.inl a3), some (.inl a4), some (.inl a5)], [], n31, D32, s33, p34, c35) _
    replace k41 : (s33 601) = (s19 601) + 4 := k41
    have b44 : 0 ≤ (s33 601) ∧ (s33 601) ≤ 32768 := hS33 601
    refine tt_k 3 (S' := (53, [some (.inr (.inl 0)), some (.inl a1), some (.inl a2), some (.inl a3), some (.inl a4), some (.inl a5)], [.inl a4, .inr (.inl 6)], n31, D32, s33, p34, c35)) rfl ?_
    refine tt_cl (by omega) rfl (e_addFour6w (Zi := Zi) (q := q) (n := n31) (D := D32) (s := s33) (p := p34) (c := c35) (by omega) hz (by omega) FK43.1 hS33 hC35 hW36 (pTy 4 a3 (pTy 4 a2 (pTy 4 a1 W))) a4 (by omega) (show (s33 601) ≤ 32764 by omega) k42) ?_
    rintro _ _ ⟨n45, D46, s47, p48, c49, rfl, rfl, hS47, hC49, hW50, f51, g52, xe53, kf54, k55, k56⟩
    have FK57 : fk p c n45 p48 c49 [600] := fk_tr FK43 kf54 (by decide)
    show tt Zi d 118 (56, [some (.inr (.inl 0)), some (.inl a1), some (.inl a2), some (.inl a3), some (.inl a4), some (.inl a5)], [], n45, D46, s47, p48, c49) _
    replace k55 : (s47 601) = (s33 601) + 4 := k55
    have b58 : 0 ≤ (s47 601) ∧ (s47 601) ≤ 32768 := hS47 601
    refine tt_k 3 (S' := (62, [some (.inr (.inl 0)), some (.inl a1), some (.inl a2), some (.inl a3), some (.inl a4), some (.inl a5)], [.inl a5, .inr (.inl 6)], n45, D46, s47, p48, c49)) rfl ?_
    refine tt_cl (by omega) rfl (e_addFour6w (Zi := Zi) (q := q) (n := n45) (D := D46) (s := s47) (p := p48) (c := c49) (by omega) hz (by omega) FK57.1 hS47 hC49 hW50 (pTy 4 a4 (pTy 4 a3 (pTy 4 a2 (pTy 4 a1 W)))) a5 (by omega) (show (s47 601) ≤ 32764 by omega) k56) ?_
    rintro _ _ ⟨n59, D60, s61, p62, c63, rfl, rfl, hS61, hC63, hW64, f65, g66, xe67, kf68, k69, k70⟩
    have FK71 : fk p c n59 p62 c63 [600] := fk_tr FK57 kf68 (by decide)
    show tt Zi d 118 (65, [some (.inr (.inl 0)), some (.inl a1), some (.inl a2), some (.inl a3), some (.inl a4), some (.inl a5)], [], n59, D60, s61, p62, c63) _
    replace k69 : (s61 601) = (s47 601) + 4 := k69
    have b72 : 0 ≤ (s61 601) ∧ (s61 601) ≤ 32768 := hS61 601
    refine tt_k 3 (S' := (72, [some (.inr (.inl 0)), some (.inl a1), some (.inl a2), some (.inl a3), some (.inl a4), some (.inl a5)], [.inl (s61 601)], n59, D60, s61, p62, c63)) rfl ?_
    exact tt_rti rfl rfl (Or.inl ⟨(s61 601), rfl, by omega, ⟨cX_mono (q := q) (show cX q g s p c [600] [601] (n59, D60, s61, p62, c63) from ⟨hS61, hC63, hW64, FK71, (show fr s s61 [601] from (fr_tr (fr_tr (fr_tr (fr_tr (fr_tr fr_rf f9 (by decide)) f23 (by decide)) f37 (by decide)) f51 (by decide)) f65 (by decide)))⟩) (by omega), (((frp_tr (frp_tr (frp_tr (frp_tr (frp_tr frp_rf g10 (by decide)) g24 (by decide)) g38 (by decide)) g52 (by decide)) g66 (by decide)) : frp p p62 [104, 400, 600, 900, 901, 1203, 1204, 1205, 2103, 2104, 2105, 2504, 2704]) 8 (by decide))⟩, by omega, by rfl, by show (s61 601) = _; omega, by exact k70⟩)
  · show tt Zi d 118 (15, [some (.inr (.inl 0)), some (.inl a1), some (.inl a2), some (.inl a3), some (.inl a4), some (.inl a5)], [], n, D, s, p, c) _
    have hn73 := wp_n hW (by omega)
    exact tt_thr (q := (12, 475)) rfl rfl (by decide) (by decide) (by omega) (by omega) (Or.inr ⟨rfl, cXp_mono (q := q + 1) ⟨⟨hS, bC_x hC (hW).dz (by decide), wp_x hW, fk_x (fk_rf hD), (show fr s s [800, 801, 802, 803, 804, 805, 806, 807, 808, 809] from fr_rf)⟩, ((frp_rf : frp p p [104, 400, 600, 900, 901, 1203, 1204, 1205, 2103, 2104, 2105, 2504, 2704]) 8 (by decide))⟩ (by omega), by omega⟩)
set_option maxRecDepth 100000 in
set_option maxHeartbeats 4000000 in
theorem e_copy {g : Nat → Int} {Zi : Nat → Option (Nat × (Nat → Int))} {d n q : Nat} {D : Nat → Nat × Nat} {s : Nat → Int} {p : Nat → Nat} {c : Nat → Nat → Int} (hd : 1 ≤ d) (hz : zk Zi) (hq : q + 2 ≤ 400000) (hD : wd n p) (hS : bS s) (hC : bC D c) (hW : wp q g n D p s) (hp0 : s 401 ≤ 32768) : tt Zi d 126 (0, [some (.inr (.inl 6)), some (.inr (.inl 4))], [], n, D, s, p, c) (fun R H => ∃ (n' : Nat) (D' : Nat → Nat × Nat) (s' : Nat → Int) (p' : Nat → Nat) (c' : Nat → Nat → Int), R = .inl none ∧ H = (n', D', s', p', c') ∧ bS s' ∧ bC D' c' ∧ wp q g n' D' p' s' ∧ fr s s' [601] ∧ frp p p' [600] ∧ ext n D n' D' ∧ fk p c n' p' c' [600] ∧ (s' 601 = s 401) ∧ (∀ i : Nat, (i : Int) < s 401 → c' (p' 600) i = c (p 400) i)) := by
  have b1 := wp_l4 hW
  have b2 := wp_l6 hW
  have hc4 := hW.c4
  have hc6 := hW.c6
  have b3 : 0 ≤ (s 401) ∧ (s 401) ≤ 262144 := hS 401
  refine tt_k 2 (S' := (4, [some (.inr (.inl 6)), some (.inr (.inl 4))], [.inr (.inl (p 600))], n, D, s, p, c)) rfl ?_
  refine tt_len (m := (ln D (p 600))) rfl ((hW).r6.1) rfl ?_
  show tt Zi d 126 (5, [some (.inr (.inl 6)), some (.inr (.inl 4))], [.inl (((ln D (p 600)) : Int))], n, D, s, p, c) _
  refine tt_k 2 (S' := (9, [some (.inr (.inl 6)), some (.inr (.inl 4))], [.inl (s 401), .inl (((ln D (p 600)) : Int))], n, D, s, p, c)) rfl ?_
  refine tb_ge (x := ((ln D (p 600)) : Int)) (y := (s 401)) rfl rfl (by omega) (fun h4 => ?_) (fun h4 => ?_)
  · show tt Zi d 126 (23, [some (.inr (.inl 6)), some (.inr (.inl 4))], [], n, D, s, p, c) _
    refine tt_k 8 (S' := (37, [some (.inr (.inl 6)), some (.inr (.inl 4))], [.inl (s 401), .inl 0, .inr (.inl (p 600)), .inl 0, .inr (.inl (p 400))], n, D, s, p, c)) rfl ?_
    refine tt_cpb (a := (p 400)) (b := (p 600)) (t := 1) (n0 := (ln D (p 400))) (n1 := (ln D (p 600))) (lo := -128) (hi := 127) (k := (s 401)) (dp := 0) (sp := 0) rfl rfl ((hW).r4.1) ((hW).r6.1) (by decide) (Nat.le_of_ble_eq_true rfl) (by omega) hC ((hW).r4.2) ((hW).r6.2) (Or.inr ⟨rfl, rfl⟩) ?_
    intro c5 hC5 ec5
    show tt Zi d 126 (40, [some (.inr (.inl 6)), some (.inr (.inl 4))], [], n, D, s, p, c5) _
    have FK6 : fk p c n p c5 [600] := fk_st (k := 600) (fk_rf hD) ec5 (by decide) rfl
    refine tt_k 4 (S' := (48, [some (.inr (.inl 6)), some (.inr (.inl 4))], [], n, D, (us s 601 (s 401)), p, c5)) rfl ?_
    exact tt_rtv rfl rfl ⟨n, D, (us s 601 (s 401)), p, c5, rfl, rfl, (bS_us hS (show 0 ≤ (s 401) ∧ (s 401) ≤ 32768 by omega)), hC5, (wp_c6 hW (show (s 401) ≤ (ln D (p 600) : Int) by omega)), (fr_us (by decide) fr_rf), frp_rf, ext_rf, FK6, by show (s 401) = s 401; omega, by show ∀ i : Nat, (i : Int) < s 401 → c5 (p 600) i = c (p 400) i; intro i hi; rw [ec5, uc_eq, vc_at hi]⟩
  · show tt Zi d 126 (12, [some (.inr (.inl 6)), some (.inr (.inl 4))], [], n, D, s, p, c) _
    refine tt_k 3 (S' := (17, [some (.inr (.inl 6)), some (.inr (.inl 4))], [.inr (.inl (p 400)), .inr (.inl 6)], n, D, s, p, c)) rfl ?_
    refine tt_len (m := (ln D (p 400))) rfl ((hW).r4.1) rfl ?_
    show tt Zi d 126 (18, [some (.inr (.inl 6)), some (.inr (.inl 4))], [.inl (((ln D (p 400)) : Int)), .inr (.inl 6)], n, D, s, p, c) _
    have hn7 := wp_n hW (by omega)
    refine tt_nwb (x := ((ln D (p 400)) : Int)) (k := 1) rfl rfl (by omega) hC ?_
    intro c8 hC8 ec8
    show tt Zi d 126 (20, [some (.inr (.inl 6)), some (.inr (.inl 4))], [.inr (.inl (48 + n)), .inr (.inl 6)], (n + 1), (ud D (48 + n) (1, (((ln D (p 400)) : Int)).toNat)), s, p, c8) _
    refine tt_k 9 (S' := (37, [some (.inr (.inl 6)), some (.inr (.inl 4))], [.inl (s 401), .inl 0, .inr (.inl (48 + n)), .inl 0, .inr (.inl (p 400))], (n + 1), (ud D (48 + n) (1, (((ln D (p 400)) : Int)).toNat)), s, (up p 600 (48 + n)), c8)) rfl ?_
    refine tt_cpb (a := (p 400)) (b := (48 + n)) (t := 1) (n0 := (ln D (p 400))) (n1 := (((ln D (p 400)) : Int)).toNat) (lo := -128) (hi := 127) (k := (s 401)) (dp := 0) (sp := 0) rfl rfl (ext_arr ext_1 (hW).r4.1) (arr_nw (by omega)) (by decide) (Nat.le_of_ble_eq_true rfl) (by omega) hC8 (ext_byt ext_1 (hW).r4).2 lo_nw1 (Or.inr ⟨rfl, rfl⟩) ?_
    intro c9 hC9 ec9
    show tt Zi d 126 (40, [some (.inr (.inl 6)), some (.inr (.inl 4))], [], (n + 1), (ud D (48 + n) (1, (((ln D (p 400)) : Int)).toNat)), s, (up p 600 (48 + n)), c9) _
    have FK10 : fk p c (n + 1) (up p 600 (48 + n)) c9 [600] := fk_st (k := 600) (fk_np (k := 600) (fk_rf hD) (by decide) ec8) ec9 (by decide) rfl
    refine tt_k 4 (S' := (48, [some (.inr (.inl 6)), some (.inr (.inl 4))], [], (n + 1), (ud D (48 + n) (1, (((ln D (p 400)) : Int)).toNat)), (us s 601 (s 401)), (up p 600 (48 + n)), c9)) rfl ?_
    exact tt_rtv rfl rfl ⟨(n + 1), (ud D (48 + n) (1, (((ln D (p 400)) : Int)).toNat)), (us s 601 (s 401)), (up p 600 (48 + n)), c9, rfl, rfl, (bS_us hS (show 0 ≤ (s 401) ∧ (s 401) ≤ 32768 by omega)), hC9, (wp_c6 (wp_cp6 hW (by omega) (by omega) (by omega)) (show (s 401) ≤ (ln (ud D (48 + n) (1, (((ln D (p 400)) : Int)).toNat)) (48 + n) : Int) by rw [ln_nw]; omega)), (fr_us (by decide) fr_rf), (frp_up (by decide) frp_rf), (ext_tr ext_rf ext_1), FK10, by show (s 401) = s 401; omega, by show ∀ i : Nat, (i : Int) < s 401 → c9 (48 + n) i = c (p 400) i; intro i hi; rw [ec9, uc_eq, vc_at hi, ec8, uc_ne (show p 400 ≠ 48 + n from Nat.ne_of_lt (hD.1 400 (by decide)))]⟩
set_option maxRecDepth 100000 in
set_option maxHeartbeats 4000000 in
theorem e_turnw {g : Nat → Int} {Zi : Nat → Option (Nat × (Nat → Int))} {d n q : Nat} {D : Nat → Nat × Nat} {s : Nat → Int} {p : Nat → Nat} {c : Nat → Nat → Int} (hd : 3 ≤ d) (hz : zk Zi) (hq : q + 6 ≤ 400000) (hD : wd n p) (hS : bS s) (hC : bC D c) (hW : wp q g n D p s)  : tt Zi d 125 (0, [some (.inr (.inl 0))], [], n, D, s, p, c) (fun R H => (∃ r : Int, R = .inl (some (.inl r)) ∧ (0 ≤ r ∧ r ≤ 32768) ∧ cXp (q + 1) g s p c [600] [601] H ∧ (s 401 ≤ 32768) ∧ (r = H.2.2.1 601) ∧ (H.2.2.1 601 = s 401) ∧ (∀ i : Nat, (i : Int) < s 401 → H.2.2.2.2 (H.2.2.2.1 600) i = c (p 400) i)) ∨ (R = .inr 12 ∧ cXp (q + 1) g s p c [] [800, 801, 802, 803, 804, 805, 806, 807, 808, 809] H ∧ ¬ (s 401 ≤ 32768))) := by
  refine tt_k 4 (S' := (9, [some (.inr (.inl 0))], [.inl 32768, .inl (s 401)], n, D, s, p, c)) rfl ?_
  have b1 : 0 ≤ (s 401) ∧ (s 401) ≤ 262144 := hS 401
  refine tb_le (x := (s 401)) (y := 32768) rfl rfl (by omega) (fun h2 => ?_) (fun h2 => ?_)
  · show tt Zi d 125 (20, [some (.inr (.inl 0))], [], n, D, s, p, c) _
    refine tt_k 4 (S' := (28, [some (.inr (.inl 0))], [.inr (.inl 4), .inr (.inl 6)], n, D, s, p, c)) rfl ?_
    refine tt_cl (by omega) rfl (e_copy (Zi := Zi) (q := q) (n := n) (D := D) (s := s) (p := p) (c := c) (by omega) hz (by omega) hD hS hC hW (show (s 401) ≤ 32768 by omega)) ?_
    rintro _ _ ⟨n3, D4, s5, p6, c7, rfl, rfl, hS5, hC7, hW8, f9, g10, xe11, kf12, k13, k14⟩
    have FK15 : fk p c n3 p6 c7 [600] := fk_tr (fk_rf hD) kf12 (by decide)
    show tt Zi d 125 (31, [some (.inr (.inl 0))], [], n3, D4, s5, p6, c7) _
    replace k13 : (s5 601) = (s 401) := k13
    have b16 : 0 ≤ (s5 601) ∧ (s5 601) ≤ 32768 := hS5 601
    refine tt_k 3 (S' := (38, [some (.inr (.inl 0))], [.inl (s5 601)], n3, D4, s5, p6, c7)) rfl ?_
    exact tt_rti rfl rfl (Or.inl ⟨(s5 601), rfl, by omega, ⟨cX_mono (q := q) (show cX q g s p c [600] [601] (n3, D4, s5, p6, c7) from ⟨hS5, hC7, hW8, FK15, (show fr s s5 [601] from (fr_tr fr_rf f9 (by decide)))⟩) (by omega), (((frp_tr frp_rf g10 (by decide)) : frp p p6 [104, 400, 600, 900, 901, 1203, 1204, 1205, 2103, 2104, 2105, 2504, 2704]) 8 (by decide))⟩, by omega, by rfl, by show (s5 601) = _; omega, by exact k14⟩)
  · show tt Zi d 125 (12, [some (.inr (.inl 0))], [], n, D, s, p, c) _
    have hn17 := wp_n hW (by omega)
    exact tt_thr (q := (12, 475)) rfl rfl (by decide) (by decide) (by omega) (by omega) (Or.inr ⟨rfl, cXp_mono (q := q + 1) ⟨⟨hS, bC_x hC (hW).dz (by decide), wp_x hW, fk_x (fk_rf hD), (show fr s s [800, 801, 802, 803, 804, 805, 806, 807, 808, 809] from fr_rf)⟩, ((frp_rf : frp p p [104, 400, 600, 900, 901, 1203, 1204, 1205, 2103, 2104, 2105, 2504, 2704]) 8 (by decide))⟩ (by omega), by omega⟩)
set_option maxRecDepth 100000 in
set_option maxHeartbeats 4000000 in
theorem e_changew {g : Nat → Int} {Zi : Nat → Option (Nat × (Nat → Int))} {d n q : Nat} {D : Nat → Nat × Nat} {s : Nat → Int} {p : Nat → Nat} {c : Nat → Nat → Int} (hd : 3 ≤ d) (hz : zk Zi) (hq : q + 6 ≤ 400000) (hD : wd n p) (hS : bS s) (hC : bC D c) (hW : wp q g n D p s) (i : Int) (y : Int) (b_i : -2147483648 ≤ i ∧ i ≤ 2147483647) (b_y : -2147483648 ≤ y ∧ y ≤ 2147483647) : tt Zi d 123 (0, [some (.inr (.inl 0)), some (.inl i), some (.inl y), none], [], n, D, s, p, c) (fun R H => (∃ r : Int, R = .inl (some (.inl r)) ∧ (-2147483648 ≤ r ∧ r ≤ 2147483647) ∧ cXp (q + 1) g s p c [600] [] H ∧ ((0 ≤ i ∧ i < s 601) ∧ (0 ≤ y ∧ y ≤ 255)) ∧ (r = (mi_xor (mi_and (c (p 600) i.toNat) 255) y)) ∧ (H.2.2.2.2 (H.2.2.2.1 600) = ua (c (p 600)) i.toNat (nb (mi_xor (mi_and (c (p 600) i.toNat) 255) y)))) ∨ (R = .inr 13 ∧ cXp (q + 1) g s p c [] [800, 801, 802, 803, 804, 805, 806, 807, 808, 809] H ∧ ¬ (0 ≤ i ∧ i < s 601)) ∨ (R = .inr 11 ∧ cXp (q + 1) g s p c [] [800, 801, 802, 803, 804, 805, 806, 807, 808, 809] H ∧ (0 ≤ i ∧ i < s 601) ∧ ¬ (0 ≤ y ∧ y ≤ 255))) := by
  have b1 := wp_l6 hW
  have hc6 := hW.c6
  have b2 : 0 ≤ (s 601) ∧ (s 601) ≤ 32768 := hS 601
  refine tt_k 1 (S' := (1, [some (.inr (.inl 0)), some (.inl i), some (.inl y), none], [.inl i], n, D, s, p, c)) rfl ?_
  refine tz_lt (x := i) rfl rfl (by omega) (fun h3 => ?_) (fun h3 => ?_)
  · show tt Zi d 123 (15, [some (.inr (.inl 0)), some (.inl i), some (.inl y), none], [], n, D, s, p, c) _
    have hn4 := wp_n hW (by omega)
    exact tt_thr (q := (13, 955)) rfl rfl (by decide) (by decide) (by omega) (by omega) (Or.inr (Or.inl ⟨rfl, cXp_mono (q := q + 1) ⟨⟨hS, bC_x hC (hW).dz (by decide), wp_x hW, fk_x (fk_rf hD), (show fr s s [800, 801, 802, 803, 804, 805, 806, 807, 808, 809] from fr_rf)⟩, ((frp_rf : frp p p [104, 400, 600, 900, 901, 1203, 1204, 1205, 2103, 2104, 2105, 2504, 2704]) 8 (by decide))⟩ (by omega), by omega⟩))
  · show tt Zi d 123 (4, [some (.inr (.inl 0)), some (.inl i), some (.inl y), none], [], n, D, s, p, c) _
    refine tt_k 4 (S' := (12, [some (.inr (.inl 0)), some (.inl i), some (.inl y), none], [.inl (s 601), .inl i], n, D, s, p, c)) rfl ?_
    refine tb_lt (x := i) (y := (s 601)) rfl rfl (by omega) (fun h5 => ?_) (fun h5 => ?_)
    · show tt Zi d 123 (23, [some (.inr (.inl 0)), some (.inl i), some (.inl y), none], [], n, D, s, p, c) _
      refine tt_k 1 (S' := (24, [some (.inr (.inl 0)), some (.inl i), some (.inl y), none], [.inl y], n, D, s, p, c)) rfl ?_
      refine tz_lt (x := y) rfl rfl (by omega) (fun h6 => ?_) (fun h6 => ?_)
      · show tt Zi d 123 (34, [some (.inr (.inl 0)), some (.inl i), some (.inl y), none], [], n, D, s, p, c) _
        have hn7 := wp_n hW (by omega)
        exact tt_thr (q := (11, 923)) rfl rfl (by decide) (by decide) (by omega) (by omega) (Or.inr (Or.inr ⟨rfl, cXp_mono (q := q + 1) ⟨⟨hS, bC_x hC (hW).dz (by decide), wp_x hW, fk_x (fk_rf hD), (show fr s s [800, 801, 802, 803, 804, 805, 806, 807, 808, 809] from fr_rf)⟩, ((frp_rf : frp p p [104, 400, 600, 900, 901, 1203, 1204, 1205, 2103, 2104, 2105, 2504, 2704]) 8 (by decide))⟩ (by omega), by omega⟩))
      · show tt Zi d 123 (27, [some (.inr (.inl 0)), some (.inl i), some (.inl y), none], [], n, D, s, p, c) _
        refine tt_k 2 (S' := (31, [some (.inr (.inl 0)), some (.inl i), some (.inl y), none], [.inl 255, .inl y], n, D, s, p, c)) rfl ?_
        refine tb_le (x := y) (y := 255) rfl rfl (by omega) (fun h8 => ?_) (fun h8 => ?_)
        · show tt Zi d 123 (42, [some (.inr (.inl 0)), some (.inl i), some (.inl y), none], [], n, D, s, p, c) _
          refine tt_k 3 (S' := (47, [some (.inr (.inl 0)), some (.inl i), some (.inl y), none], [.inl i, .inr (.inl 6)], n, D, s, p, c)) rfl ?_
          refine tt_cl (by omega) rfl (e_get6 (Zi := Zi) (q := q) (n := n) (D := D) (s := s) (p := p) (c := c) (by omega) hz (by omega) hD hS hC hW i (by omega) (show 0 ≤ i ∧ i < (ln D (p 600) : Int) by omega)) ?_
          rintro _ _ ⟨r9, rfl, rfl, b10, k11⟩
          show tt Zi d 123 (50, [some (.inr (.inl 0)), some (.inl i), some (.inl y), none], [.inl r9], n, D, s, p, c) _
          refine tt_k 9 (S' := (63, [some (.inr (.inl 0)), some (.inl i), some (.inl y), some (.inl (mi_xor r9 y))], [.inl (mi_i2b (mi_xor r9 y)), .inl i, .inr (.inl (p 600))], n, D, s, p, c)) rfl ?_
          have e12 := mi_xor_bd r9 y
          have e13 := mi_i2b_bd (mi_xor r9 y)
          refine tt_bsb (i := i) (m := (ln D (p 600))) (lo := -128) (hi := 127) (x := (mi_i2b (mi_xor r9 y))) rfl ((hW).r6.1) (by omega) hC ((hW).r6.2) ⟨rfl, rfl⟩ ?_
          intro c14 hC14 ec14
          show tt Zi d 123 (64, [some (.inr (.inl 0)), some (.inl i), some (.inl y), some (.inl (mi_xor r9 y))], [], n, D, s, p, c14) _
          have FK15 : fk p c n p c14 [600] := fk_st (k := 600) (fk_rf hD) ec14 (by decide) rfl
          refine tt_k 1 (S' := (65, [some (.inr (.inl 0)), some (.inl i), some (.inl y), some (.inl (mi_xor r9 y))], [.inl (mi_xor r9 y)], n, D, s, p, c14)) rfl ?_
          exact tt_rti rfl rfl (Or.inl ⟨(mi_xor r9 y), rfl, by omega, ⟨cX_mono (q := q) (show cX q g s p c [600] [] (n, D, s, p, c14) from ⟨hS, hC14, hW, FK15, (show fr s s [] from fr_rf)⟩) (by omega), ((frp_rf : frp p p [104, 400, 600, 900, 901, 1203, 1204, 1205, 2103, 2104, 2105, 2504, 2704]) 8 (by decide))⟩, by omega, by rw [k11], by show c14 (p 600) = _; rw [ec14, uc_eq, k11]; rfl⟩)
        · show tt Zi d 123 (34, [some (.inr (.inl 0)), some (.inl i), some (.inl y), none], [], n, D, s, p, c) _
          have hn16 := wp_n hW (by omega)
          exact tt_thr (q := (11, 923)) rfl rfl (by decide) (by decide) (by omega) (by omega) (Or.inr (Or.inr ⟨rfl, cXp_mono (q := q + 1) ⟨⟨hS, bC_x hC (hW).dz (by decide), wp_x hW, fk_x (fk_rf hD), (show fr s s [800, 801, 802, 803, 804, 805, 806, 807, 808, 809] from fr_rf)⟩, ((frp_rf : frp p p [104, 400, 600, 900, 901, 1203, 1204, 1205, 2103, 2104, 2105, 2504, 2704]) 8 (by decide))⟩ (by omega), by omega⟩))
    · show tt Zi d 123 (15, [some (.inr (.inl 0)), some (.inl i), some (.inl y), none], [], n, D, s, p, c) _
      have hn17 := wp_n hW (by omega)
      exact tt_thr (q := (13, 955)) rfl rfl (by decide) (by decide) (by omega) (by omega) (Or.inr (Or.inl ⟨rfl, cXp_mono (q := q + 1) ⟨⟨hS, bC_x hC (hW).dz (by decide), wp_x hW, fk_x (fk_rf hD), (show fr s s [800, 801, 802, 803, 804, 805, 806, 807, 808, 809] from fr_rf)⟩, ((frp_rf : frp p p [104, 400, 600, 900, 901, 1203, 1204, 1205, 2103, 2104, 2105, 2504, 2704]) 8 (by decide))⟩ (by omega), by omega⟩))
