/-! the class reads a plane into one picture -/
set_option maxRecDepth 100000 in
set_option maxHeartbeats 4000000 in
theorem u_closeRow25 {g : Nat → Int} {Zi : Nat → Option (Nat × (Nat → Int))} {d n q : Nat} {D : Nat → Nat × Nat} {s : Nat → Int} {p : Nat → Nat} {c : Nat → Nat → Int} (hd : 0 ≤ d) (hz : zk Zi) (hq : q + 0 ≤ 400000) (hD : wd n p) (hS : bS s) (hC : bC D c) (hW : wp q g n D p s) (hp0 : s 2107 + s 2106 ≤ (ln D (p 2105) : Int)) (hp1 : p 2105 = p 2504) : tt Zi d 76 (0, [some (.inr (.inl 21))], [], n, D, s, p, c) (fun R H => ∃ (c' : Nat → Nat → Int), R = .inl none ∧ H = (n, D, s, p, c') ∧ bC D c' ∧ fk p c n p c' [2504] ∧ (c' (p 2504) = va_cpy (c (p 2104)) (c (p 2504)) 1 (s 2107).toNat (s 2106).toNat)) := by
  have b1 : ln D (p 2105) ≤ 12288 := (hW).s21.2.2
  have b2 : 0 ≤ (s 2106) ∧ (s 2106) ≤ 64 := hS 2106
  have b3 : 0 ≤ (s 2107) ∧ (s 2107) ≤ 12288 := hS 2107
  refine tt_k 9 (S' := (17, [some (.inr (.inl 21))], [.inl (s 2106), .inl (s 2107), .inr (.inl (p 2105)), .inl 1, .inr (.inl (p 2104))], n, D, s, p, c)) rfl ?_
  refine tt_cpb (a := (p 2104)) (b := (p 2105)) (t := 0) (n0 := 66) (n1 := (ln D (p 2105))) (lo := 0) (hi := 65535) (k := (s 2106)) (dp := (s 2107)) (sp := 1) rfl rfl ((sw_arr (hW).a21 rfl rfl).2) ((hW).s21.1) (by decide) (Nat.le_of_ble_eq_true rfl) (by omega) hC ((sw_21 (hW).a21).2) ((hW).s21.2.1) (Or.inl rfl) ?_
  intro c4 hC4 ec4
  show tt Zi d 76 (20, [some (.inr (.inl 21))], [], n, D, s, p, c4) _
  have FK5 : fk p c n p c4 [2504] := fk_st (k := 2504) (fk_rf hD) ec4 (by decide) hp1.symm
  exact tt_rtv rfl rfl ⟨c4, rfl, rfl, hC4, FK5, by show c4 (p 2504) = va_cpy (c (p 2104)) (c (p 2504)) 1 (s 2107).toNat (s 2106).toNat; rw [← hp1, ec4, uc_eq]; rfl⟩
set_option maxRecDepth 100000 in
set_option maxHeartbeats 4000000 in
theorem u_tellPlane25_L66 {g : Nat → Int} {Zi : Nat → Option (Nat × (Nat → Int))} {d n q : Nat} {D : Nat → Nat × Nat} {s : Nat → Int} {p : Nat → Nat} {c : Nat → Nat → Int}  {Q : mi_Rs → mi_H → Prop} (hd : 8 ≤ d) (hz : zk Zi) (hq : q + 16 ≤ 400001) (hD : wd n p) (hS : bS s) (hC : bC D c) (hW : wp q g n D p s) (A : TN) (Z : Nat → Int) (h_ : Int) (R : Option XR) (fs : Nat → Int) (bb : Int) (a_ : Int) (y : Int) (b_a_ : 0 ≤ a_ ∧ a_ ≤ 2) (b_y : 0 ≤ y ∧ y ≤ 63) (hq0 : 1 ≤ s 2106 ∧ y < h_ ∧ h_ ≤ 64) (hq1 : zq Z (s 800) (s 801) (s 802) (s 803) (s 804) (s 805) (s 806) (s 807) (s 808) (s 809)) (hq2 : mv Z) (hq3 : tpl A (s 601) (c (p 600))) (hX12 : ∀ H, cXp (q + 1) g s p c [901, 2104] [800, 801, 802, 803, 804, 805, 806, 807, 808, 809, 902, 1705, 1706, 2001, 2002, 2003, 2004, 2005, 2006, 2106, 2107, 2108, 2109, 2110, 2111, 2112, 2113, 2114, 2115, 2116] H → (R = none) → Q (.inr 12) H)
  (hK : ∀ (x : Int) (s0 : Nat → Int) (c0 : Nat → Nat → Int) (b_x : 0 ≤ x ∧ x ≤ 65) (hS0 : bS s0) (hF0 : fr s s0 [902, 2001, 2002, 2003, 2004, 2108, 2109, 2110, 2111, 2112, 2113, 2114, 2115, 2116]) (hC0 : bC D c0) (hW0 : wp q g n D p s0) (hK0 : fk p c n p c0 [901, 2104]) (i0 : ((0 ≤ s0 2003 ∧ s0 2003 ≤ 8) ∧ (0 ≤ s0 2002 ∧ s0 2002 ≤ 255)) ∧ s0 2001 ≤ s 601) (i1 : rdC A Z h_ R y x (s 2106) (s0 902) (s0 2001, s0 2002, s0 2003) (c0 (p 901)) (c0 (p 2104)) (c0 (p 2103)) fs bb), (s 2106 ≤ x) → tt Zi d 32 (139, [some (.inr (.inl 21)), some (.inr (.inl 25)), some (.inl a_), some (.inl y), some (.inl x)], [], n, D, s0, p, c0) Q) :
  ∀ (m : Nat) (x : Int) (s0 : Nat → Int) (c0 : Nat → Nat → Int) (b_x : 0 ≤ x ∧ x ≤ 65) (hS0 : bS s0) (hF0 : fr s s0 [902, 2001, 2002, 2003, 2004, 2108, 2109, 2110, 2111, 2112, 2113, 2114, 2115, 2116]) (hC0 : bC D c0) (hW0 : wp q g n D p s0) (hK0 : fk p c n p c0 [901, 2104]) (i0 : ((0 ≤ s0 2003 ∧ s0 2003 ≤ 8) ∧ (0 ≤ s0 2002 ∧ s0 2002 ≤ 255)) ∧ s0 2001 ≤ s 601) (i1 : rdC A Z h_ R y x (s 2106) (s0 902) (s0 2001, s0 2002, s0 2003) (c0 (p 901)) (c0 (p 2104)) (c0 (p 2103)) fs bb), (65 - x).toNat < m → tt Zi d 32 (66, [some (.inr (.inl 21)), some (.inr (.inl 25)), some (.inl a_), some (.inl y), some (.inl x)], [], n, D, s0, p, c0) Q := by
  intro m
  induction m with
  | zero => intro x s0 c0 b_x hS0 hF0 hC0 hW0 hK0 i0 i1 hm; exact absurd hm (by omega)
  | succ m ih =>
    intro x s0 c0 b_x hS0 hF0 hC0 hW0 hK0 i0 i1 hm
    have e1 : s0 2500 = s 2500 := hF0 2500 (by decide)
    have b2 : 0 ≤ (s0 2500) ∧ (s0 2500) ≤ 64 := hS0 2500
    have b3 : 0 ≤ (s 2500) ∧ (s 2500) ≤ 64 := hS 2500
    have e4 : s0 2501 = s 2501 := hF0 2501 (by decide)
    have b5 : 0 ≤ (s0 2501) ∧ (s0 2501) ≤ 64 := hS0 2501
    have b6 : 0 ≤ (s 2501) ∧ (s 2501) ≤ 64 := hS 2501
    have e7 : s0 2502 = s 2502 := hF0 2502 (by decide)
    have b8 : 0 ≤ (s0 2502) ∧ (s0 2502) ≤ 3 := hS0 2502
    have b9 : 0 ≤ (s 2502) ∧ (s 2502) ≤ 3 := hS 2502
    have e10 : s0 2106 = s 2106 := hF0 2106 (by decide)
    have b11 : 0 ≤ (s0 2106) ∧ (s0 2106) ≤ 64 := hS0 2106
    have b12 : 0 ≤ (s 2106) ∧ (s 2106) ≤ 64 := hS 2106
    have e13 : s0 2107 = s 2107 := hF0 2107 (by decide)
    have b14 : 0 ≤ (s0 2107) ∧ (s0 2107) ≤ 12288 := hS0 2107
    have b15 : 0 ≤ (s 2107) ∧ (s 2107) ≤ 12288 := hS 2107
    have e16 : s0 601 = s 601 := hF0 601 (by decide)
    have b17 : 0 ≤ (s0 601) ∧ (s0 601) ≤ 32768 := hS0 601
    have b18 : 0 ≤ (s 601) ∧ (s 601) ≤ 32768 := hS 601
    have b19 : 0 ≤ (s0 902) ∧ (s0 902) ≤ 31 := hS0 902
    have b20 : 0 ≤ (s0 2001) ∧ (s0 2001) ≤ 100000 := hS0 2001
    have b21 : 0 ≤ (s0 2002) ∧ (s0 2002) ≤ 255 := hS0 2002
    have b22 : 0 ≤ (s0 2003) ∧ (s0 2003) ≤ 8 := hS0 2003
    obtain ⟨X, hI, hrd, hmr, hpc, hhr, hsm⟩ := i1
    have hz0 : zq Z (s0 800) (s0 801) (s0 802) (s0 803) (s0 804) (s0 805) (s0 806) (s0 807) (s0 808) (s0 809) := by rw [hF0 800 (by decide), hF0 801 (by decide), hF0 802 (by decide), hF0 803 (by decide), hF0 804 (by decide), hF0 805 (by decide), hF0 806 (by decide), hF0 807 (by decide), hF0 808 (by decide), hF0 809 (by decide)]; exact hq1
    have htp : tpl A (s0 601) (c0 (p 600)) := by rw [hF0 601 (by decide), fk_k (k := 600) hK0 (by decide)]; exact hq3
    have mvx := mv_fx (s := Z) hq2
    refine tt_k 3 (S' := (72, [some (.inr (.inl 21)), some (.inr (.inl 25)), some (.inl a_), some (.inl y), some (.inl x)], [.inl (s0 2106), .inl x], n, D, s0, p, c0)) rfl ?_
    refine tb_ge (x := x) (y := (s0 2106)) rfl rfl (by omega) (fun h23 => ?_) (fun h23 => ?_)
    · show tt Zi d 32 (139, [some (.inr (.inl 21)), some (.inr (.inl 25)), some (.inl a_), some (.inl y), some (.inl x)], [], n, D, s0, p, c0) _
      exact hK x s0 c0 (by omega) hS0 hF0 hC0 hW0 hK0 (show ((0 ≤ (s0 2003) ∧ (s0 2003) ≤ 8) ∧ (0 ≤ (s0 2002) ∧ (s0 2002) ≤ 255)) ∧ (s0 2001) ≤ s 601 by omega) ⟨X, hI, hrd, hmr, hpc, hhr, hsm⟩ (by omega)
    · show tt Zi d 32 (75, [some (.inr (.inl 21)), some (.inr (.inl 25)), some (.inl a_), some (.inl y), some (.inl x)], [], n, D, s0, p, c0) _
      have hmin : min x (s 2106) = x := by omega
      rw [hmin] at hI hhr
      have hvX := hI.1
      have hpb := hvX.2.2.1
      refine tt_k 2 (S' := (78, [some (.inr (.inl 21)), some (.inr (.inl 25)), some (.inl a_), some (.inl y), some (.inl x)], [.inl x, .inr (.inl 21)], n, D, s0, p, c0)) rfl ?_
      have b24 : 0 ≤ (s0 800) ∧ (s0 800) ≤ 65535 := hS0 800
      have b25 : -2147483648 ≤ (s0 801) ∧ (s0 801) ≤ 2147483647 := hS0 801
      have b26 : -2147483648 ≤ (s0 802) ∧ (s0 802) ≤ 2147483647 := hS0 802
      have b27 : -2147483648 ≤ (s0 803) ∧ (s0 803) ≤ 2147483647 := hS0 803
      have b28 : -2147483648 ≤ (s0 804) ∧ (s0 804) ≤ 2147483647 := hS0 804
      have b29 : 0 ≤ (s0 805) ∧ (s0 805) ≤ 65535 := hS0 805
      have b30 : 1 ≤ (s0 806) ∧ (s0 806) ≤ 511 := hS0 806
      have b31 : 0 ≤ (s0 807) ∧ (s0 807) ≤ 65536 := hS0 807
      have b32 : 0 ≤ (s0 808) ∧ (s0 808) ≤ 30 := hS0 808
      have b33 : 0 ≤ (s0 809) ∧ (s0 809) ≤ 64 := hS0 809
      refine tt_cl (by omega) rfl (u_look (Zi := Zi) (q := q) (n := n) (D := D) (s := s0) (p := p) (c := c0) (by omega) hz (by omega) hK0.1 hS0 hC0 hW0 Z (X.2.2.2, s 2106, x, y) x (by omega) hhr hz0 ⟨rfl, by show x < s 2106; omega, by show s 2106 ≤ 64; omega, by show 0 ≤ y; omega⟩) ?_
      rintro _ _ ⟨s34, rfl, rfl, hS34, hW35, f36, k37, k38, k39, k40, k41⟩
      show tt Zi d 32 (81, [some (.inr (.inl 21)), some (.inr (.inl 25)), some (.inl a_), some (.inl y), some (.inl x)], [], n, D, s34, p, c0) _
      replace k37 : (s34 2108) = nA (X.2.2.2, s 2106, x, y).1 x (X.2.2.2, s 2106, x, y).2.2.2 := k37
      replace k38 : (s34 2109) = nB (X.2.2.2, s 2106, x, y).1 x (X.2.2.2, s 2106, x, y).2.2.2 := k38
      replace k39 : (s34 2110) = nC (X.2.2.2, s 2106, x, y).1 x (X.2.2.2, s 2106, x, y).2.2.2 := k39
      replace k40 : (s34 2115) = (if gsm Z (nA (X.2.2.2, s 2106, x, y).1 x (X.2.2.2, s 2106, x, y).2.2.2) (nB (X.2.2.2, s 2106, x, y).1 x (X.2.2.2, s 2106, x, y).2.2.2) (nC (X.2.2.2, s 2106, x, y).1 x (X.2.2.2, s 2106, x, y).2.2.2) (nD (X.2.2.2, s 2106, x, y).1 (X.2.2.2, s 2106, x, y).2.1 x (X.2.2.2, s 2106, x, y).2.2.2) < 0 then 1 else 0) := k40
      replace k41 : (s34 2111) = fA (gsm Z (nA (X.2.2.2, s 2106, x, y).1 x (X.2.2.2, s 2106, x, y).2.2.2) (nB (X.2.2.2, s 2106, x, y).1 x (X.2.2.2, s 2106, x, y).2.2.2) (nC (X.2.2.2, s 2106, x, y).1 x (X.2.2.2, s 2106, x, y).2.2.2) (nD (X.2.2.2, s 2106, x, y).1 (X.2.2.2, s 2106, x, y).2.1 x (X.2.2.2, s 2106, x, y).2.2.2)) := k41
      have b42 : 0 ≤ (s34 2108) ∧ (s34 2108) ≤ 65535 := hS34 2108
      have b43 : 0 ≤ (s34 2109) ∧ (s34 2109) ≤ 65535 := hS34 2109
      have b44 : 0 ≤ (s34 2110) ∧ (s34 2110) ≤ 65535 := hS34 2110
      have b45 : 0 ≤ (s34 2115) ∧ (s34 2115) ≤ 1 := hS34 2115
      have b46 : 0 ≤ (s34 2111) ∧ (s34 2111) ≤ 366 := hS34 2111
      have e47 : s34 2500 = (s0 2500) := (f36 2500 (by decide))
      have b48 : 0 ≤ (s34 2500) ∧ (s34 2500) ≤ 64 := hS34 2500
      have e49 : s34 2501 = (s0 2501) := (f36 2501 (by decide))
      have b50 : 0 ≤ (s34 2501) ∧ (s34 2501) ≤ 64 := hS34 2501
      have e51 : s34 2502 = (s0 2502) := (f36 2502 (by decide))
      have b52 : 0 ≤ (s34 2502) ∧ (s34 2502) ≤ 3 := hS34 2502
      have e53 : s34 2106 = (s0 2106) := (f36 2106 (by decide))
      have b54 : 0 ≤ (s34 2106) ∧ (s34 2106) ≤ 64 := hS34 2106
      have e55 : s34 2107 = (s0 2107) := (f36 2107 (by decide))
      have b56 : 0 ≤ (s34 2107) ∧ (s34 2107) ≤ 12288 := hS34 2107
      have e57 : s34 902 = (s0 902) := (f36 902 (by decide))
      have b58 : 0 ≤ (s34 902) ∧ (s34 902) ≤ 31 := hS34 902
      have e59 : s34 2001 = (s0 2001) := (f36 2001 (by decide))
      have b60 : 0 ≤ (s34 2001) ∧ (s34 2001) ≤ 100000 := hS34 2001
      have e61 : s34 2002 = (s0 2002) := (f36 2002 (by decide))
      have b62 : 0 ≤ (s34 2002) ∧ (s34 2002) ≤ 255 := hS34 2002
      have e63 : s34 2003 = (s0 2003) := (f36 2003 (by decide))
      have b64 : 0 ≤ (s34 2003) ∧ (s34 2003) ≤ 8 := hS34 2003
      have e65 : s34 601 = (s0 601) := (f36 601 (by decide))
      have b66 : 0 ≤ (s34 601) ∧ (s34 601) ≤ 32768 := hS34 601
      have hx67 : tpl A (s34 601) (c0 (p 600)) := by rw [f36 601 (by decide)]; exact htp
      have hx68 : zq Z (s34 800) (s34 801) (s34 802) (s34 803) (s34 804) (s34 805) (s34 806) (s34 807) (s34 808) (s34 809) := by rw [f36 800 (by decide), f36 801 (by decide), f36 802 (by decide), f36 803 (by decide), f36 804 (by decide), f36 805 (by decide), f36 806 (by decide), f36 807 (by decide), f36 808 (by decide), f36 809 (by decide)]; exact hz0
      have la : s34 2108 = (nA X.2.2.2 x y) := k37
      have lb : s34 2109 = (nB X.2.2.2 x y) := k38
      have lc : s34 2110 = (nC X.2.2.2 x y) := k39
      have lt : s34 2115 = (if (gsT Z (s 2106) y x X.2.2.2) < 0 then 1 else 0) := k40
      have lp : s34 2111 = fA (gsT Z (s 2106) y x X.2.2.2) := k41
      clear k37 k38 k39 k40 k41
      have hgf : fA (gsT Z (s 2106) y x X.2.2.2) = 0 ↔ (gsT Z (s 2106) y x X.2.2.2) = 0 := by unfold fA; split <;> omega
      have hgp := gsT_bd (Z := Z) (w := s 2106) (y := y) (x := x) (T := X.2.2.2)
      have hfb : 0 ≤ fA (gsT Z (s 2106) y x X.2.2.2) ∧ fA (gsT Z (s 2106) y x X.2.2.2) ≤ 364 := by unfold fA; split <;> omega
      refine tt_k 2 (S' := (85, [some (.inr (.inl 21)), some (.inr (.inl 25)), some (.inl a_), some (.inl y), some (.inl x)], [.inl (s34 2111)], n, D, s34, p, c0)) rfl ?_
      refine tz_eq (x := (s34 2111)) rfl rfl (by omega) (fun h69 => ?_) (fun h69 => ?_)
      · show tt Zi d 32 (101, [some (.inr (.inl 21)), some (.inr (.inl 25)), some (.inl a_), some (.inl y), some (.inl x)], [], n, D, s34, p, c0) _
        refine tt_k 3 (S' := (106, [some (.inr (.inl 21)), some (.inr (.inl 25)), some (.inl a_), some (.inl y), some (.inl x)], [.inl x, .inr (.inl 21), .inl x], n, D, s34, p, c0)) rfl ?_
        refine tt_cl (by omega) rfl (u_tellRun (Zi := Zi) (q := q) (n := n) (D := D) (s := s34) (p := p) (c := c0) (by omega) hz (by omega) hK0.1 hS34 hC0 hW35 A x (by omega) hx67 (show (0 ≤ (s34 2003) ∧ (s34 2003) ≤ 8) ∧ (0 ≤ (s34 2002) ∧ (s34 2002) ≤ 255) by omega) (show (s34 2001) ≤ (s34 601) by omega) (show x < (s34 2106) by omega) (show (s34 902) ≤ 22 by omega)) ?_
        rintro _ H1 (⟨s70, c71, r72, rfl, rfl, hS70, hC71, hW73, f74, kf75, b76, k77, k78, k79, k80, k81, k82⟩ | ⟨rfl, hY83, hn84⟩)
        rotate_left
        · exact tt_ax rfl (hX12 _ (cXp_mono (cXp_tr hK0 (fr_wk (show fr s s34 [902, 2001, 2002, 2003, 2004, 2108, 2109, 2110, 2111, 2112, 2113, 2114, 2115, 2116] from (fr_tr hF0 f36 (by decide))) (by decide)) ((frp_rf : frp p p []) 8 (by decide)) hY83 (by decide) (by decide)) (by omega)) (plJ_n hI (by omega) (by omega) (stR_un (w := s 2106) (by omega) (by have h := hn84; rw [show s34 902 = s0 902 by omega, show s34 2001 = s0 2001 by omega, show s34 2002 = s0 2002 by omega, show s34 2003 = s0 2003 by omega, show s34 2106 = s 2106 by omega] at h; rw [hrd, ← hpc]; exact h))))
        have FK85 : fk p c n p c71 [901, 2104] := fk_tr hK0 kf75 (by decide)
        show tt Zi d 32 (109, [some (.inr (.inl 21)), some (.inr (.inl 25)), some (.inl a_), some (.inl y), some (.inl x)], [.inl r72, .inl x], n, D, s70, p, c71) _
        replace k77 : x + r72 ≤ (s34 2106) := k77
        replace k78 : (rRun A ((s34 2106) - x) 70 0 ((s34 902)) ((s34 2001), (s34 2002), (s34 2003))) = some (r72, (s70 902), (s70 2001), (s70 2002), (s70 2003)) := k78
        replace k80 : (0 ≤ (s70 2003) ∧ (s70 2003) ≤ 8) ∧ (0 ≤ (s70 2002) ∧ (s70 2002) ≤ 255) := k80
        replace k81 : (s70 2001) ≤ (s34 601) := k81
        replace k82 : 0 ≤ (s70 902) ∧ (s70 902) ≤ 22 := k82
        have b86 : 0 ≤ (s70 902) ∧ (s70 902) ≤ 31 := hS70 902
        have b87 : 0 ≤ (s70 2001) ∧ (s70 2001) ≤ 100000 := hS70 2001
        have b88 : 0 ≤ (s70 2002) ∧ (s70 2002) ≤ 255 := hS70 2002
        have b89 : 0 ≤ (s70 2003) ∧ (s70 2003) ≤ 8 := hS70 2003
        have e90 : s70 2500 = (s34 2500) := (f74 2500 (by decide))
        have b91 : 0 ≤ (s70 2500) ∧ (s70 2500) ≤ 64 := hS70 2500
        have e92 : s70 2501 = (s34 2501) := (f74 2501 (by decide))
        have b93 : 0 ≤ (s70 2501) ∧ (s70 2501) ≤ 64 := hS70 2501
        have e94 : s70 2502 = (s34 2502) := (f74 2502 (by decide))
        have b95 : 0 ≤ (s70 2502) ∧ (s70 2502) ≤ 3 := hS70 2502
        have e96 : s70 2106 = (s34 2106) := (f74 2106 (by decide))
        have b97 : 0 ≤ (s70 2106) ∧ (s70 2106) ≤ 64 := hS70 2106
        have e98 : s70 2107 = (s34 2107) := (f74 2107 (by decide))
        have b99 : 0 ≤ (s70 2107) ∧ (s70 2107) ≤ 12288 := hS70 2107
        have e100 : s70 601 = (s34 601) := (f74 601 (by decide))
        have b101 : 0 ≤ (s70 601) ∧ (s70 601) ≤ 32768 := hS70 601
        have hx102 : tpl A (s70 601) (c71 (p 600)) := by rw [f74 601 (by decide), fk_k (k := 600) kf75 (by decide)]; exact hx67
        have hx103 : mrc X.2.1 (c71 (p 901)) := by rw [fk_k (k := 901) kf75 (by decide)]; exact hmr
        have hx104 : zq Z (s70 800) (s70 801) (s70 802) (s70 803) (s70 804) (s70 805) (s70 806) (s70 807) (s70 808) (s70 809) := by rw [f74 800 (by decide), f74 801 (by decide), f74 802 (by decide), f74 803 (by decide), f74 804 (by decide), f74 805 (by decide), f74 806 (by decide), f74 807 (by decide), f74 808 (by decide), f74 809 (by decide)]; exact hx68
        have hgz : (gsT Z (s 2106) y x X.2.2.2) = 0 := by omega
        have hru : rRun A (s 2106 - x) 70 0 X.2.2.1 X.1 = some (r72, s70 902, s70 2001, s70 2002, s70 2003) := by rw [hrd, ← hpc, ← show s34 902 = s0 902 by omega, ← show s34 2001 = s0 2001 by omega, ← show s34 2002 = s0 2002 by omega, ← show s34 2003 = s0 2003 by omega]; have h := k78; rw [show s34 2106 = s 2106 by omega] at h; exact h
        have hh8 : hrm (fil X.2.2.2 (64 * y + x).toNat r72 (nA X.2.2.2 x y), s 2106, x + r72, y) (c71 (p 2104)) (c71 (p 2103)) := by have hk := k79; unfold rwm rwh at hk; rw [hk, la, fk_k (k := 2103) kf75 (by decide)]; exact hr_fl hhr (by omega) (by omega) (by omega) (by omega)
        have la8 : s70 2108 = (nA X.2.2.2 x y) := (f74 2108 (by decide)).trans la
        have hj8 := jj_bd (p := s70 902) (by omega)
        refine tt_k 5 (S' := (118, [some (.inr (.inl 21)), some (.inr (.inl 25)), some (.inl a_), some (.inl y), some (.inl (x + r72))], [.inl (s70 2106), .inl (x + r72)], n, D, s70, p, c71)) rfl ?_
        refine tb_ge (x := (x + r72)) (y := (s70 2106)) rfl rfl (by omega) (fun h105 => ?_) (fun h105 => ?_)
        · show tt Zi d 32 (133, [some (.inr (.inl 21)), some (.inr (.inl 25)), some (.inl a_), some (.inl y), some (.inl (x + r72))], [], n, D, s70, p, c71) _
          refine tt_k 2 (S' := (66, [some (.inr (.inl 21)), some (.inr (.inl 25)), some (.inl a_), some (.inl y), some (.inl ((x + r72) + 1))], [], n, D, s70, p, c71)) rfl ?_
          have hst := stR_q (w := s 2106) hgz hru (by omega)
          obtain ⟨hJ, hJ2⟩ := plJ_s hq2 hI (by omega) (by omega) (by omega) (by omega) hst
          have hsm2 := rSm_s hsm (stR_T hvX (by omega) (by omega) (by omega) hst) (by omega)
          have hmin2 : min (x + r72 + 1) (s 2106) = x + r72 := by omega
          exact ih ((x + r72) + 1) s70 c71 (by omega) hS70 (fr_tr (fr_tr hF0 f36 (by decide)) f74 (by decide)) hC71 hW73 FK85 (show ((0 ≤ (s70 2003) ∧ (s70 2003) ≤ 8) ∧ (0 ≤ (s70 2002) ∧ (s70 2002) ≤ 255)) ∧ (s70 2001) ≤ s 601 by omega) ⟨((s70 2001, s70 2002, s70 2003), X.2.1, s70 902, fil X.2.2.2 (64 * y + x).toNat r72 (nA X.2.2.2 x y)), (by rw [hmin2]; exact hJ), rfl, hx103, rfl, (by rw [hmin2]; exact hh8), hsm2⟩ (show (65 - ((x + r72) + 1)).toNat < m by omega)
        · show tt Zi d 32 (121, [some (.inr (.inl 21)), some (.inr (.inl 25)), some (.inl a_), some (.inl y), some (.inl (x + r72))], [], n, D, s70, p, c71) _
          refine tt_k 2 (S' := (124, [some (.inr (.inl 21)), some (.inr (.inl 25)), some (.inl a_), some (.inl y), some (.inl (x + r72))], [.inl (x + r72), .inr (.inl 21)], n, D, s70, p, c71)) rfl ?_
          have b106 : 0 ≤ (s70 800) ∧ (s70 800) ≤ 65535 := hS70 800
          have b107 : -2147483648 ≤ (s70 801) ∧ (s70 801) ≤ 2147483647 := hS70 801
          have b108 : -2147483648 ≤ (s70 802) ∧ (s70 802) ≤ 2147483647 := hS70 802
          have b109 : -2147483648 ≤ (s70 803) ∧ (s70 803) ≤ 2147483647 := hS70 803
          have b110 : -2147483648 ≤ (s70 804) ∧ (s70 804) ≤ 2147483647 := hS70 804
          have b111 : 0 ≤ (s70 805) ∧ (s70 805) ≤ 65535 := hS70 805
          have b112 : 1 ≤ (s70 806) ∧ (s70 806) ≤ 511 := hS70 806
          have b113 : 0 ≤ (s70 807) ∧ (s70 807) ≤ 65536 := hS70 807
          have b114 : 0 ≤ (s70 808) ∧ (s70 808) ≤ 30 := hS70 808
          have b115 : 0 ≤ (s70 809) ∧ (s70 809) ≤ 64 := hS70 809
          refine tt_cl (by omega) rfl (u_aimStop (Zi := Zi) (q := q) (n := n) (D := D) (s := s70) (p := p) (c := c71) (by omega) hz (by omega) FK85.1 hS70 hC71 hW73 (64 * y + x) Z X.2.1 (fil X.2.2.2 (64 * y + x).toNat r72 (nA X.2.2.2 x y), s 2106, x + r72, y) (x + r72) (by omega) hh8 hx103 hx104 hq2 hvX.1 (show 0 ≤ (64 * y + x) ∧ (64 * y + x) ≤ 4095 by omega) ⟨rfl, by show x + r72 < s 2106; omega, by show s 2106 ≤ 64; omega, by show 0 ≤ y; omega⟩) ?_
          rintro _ _ ⟨s116, rfl, rfl, hS116, hW117, f118, k119, k120, k121, k122, k123, k124⟩
          show tt Zi d 32 (127, [some (.inr (.inl 21)), some (.inr (.inl 25)), some (.inl a_), some (.inl y), some (.inl (x + r72))], [], n, D, s116, p, c71) _
          replace k119 : (s116 2112) = sS Z ((s70 2108)) (nB (fil X.2.2.2 (64 * y + x).toNat r72 (nA X.2.2.2 x y), s 2106, x + r72, y).1 (x + r72) (fil X.2.2.2 (64 * y + x).toNat r72 (nA X.2.2.2 x y), s 2106, x + r72, y).2.2.2) := k119
          replace k120 : (s116 2111) = 365 + sS Z ((s70 2108)) (nB (fil X.2.2.2 (64 * y + x).toNat r72 (nA X.2.2.2 x y), s 2106, x + r72, y).1 (x + r72) (fil X.2.2.2 (64 * y + x).toNat r72 (nA X.2.2.2 x y), s 2106, x + r72, y).2.2.2) := k120
          replace k121 : (s116 2114) = gS Z ((s70 2108)) (nB (fil X.2.2.2 (64 * y + x).toNat r72 (nA X.2.2.2 x y), s 2106, x + r72, y).1 (x + r72) (fil X.2.2.2 (64 * y + x).toNat r72 (nA X.2.2.2 x y), s 2106, x + r72, y).2.2.2) := k121
          replace k122 : (s116 2115) = tS Z ((s70 2108)) (nB (fil X.2.2.2 (64 * y + x).toNat r72 (nA X.2.2.2 x y), s 2106, x + r72, y).1 (x + r72) (fil X.2.2.2 (64 * y + x).toNat r72 (nA X.2.2.2 x y), s 2106, x + r72, y).2.2.2) := k122
          replace k123 : (s116 2113) = kS X.2.1 (sS Z ((s70 2108)) (nB (fil X.2.2.2 (64 * y + x).toNat r72 (nA X.2.2.2 x y), s 2106, x + r72, y).1 (x + r72) (fil X.2.2.2 (64 * y + x).toNat r72 (nA X.2.2.2 x y), s 2106, x + r72, y).2.2.2)) := k123
          replace k124 : (s116 2116) = oS X.2.1 (sS Z ((s70 2108)) (nB (fil X.2.2.2 (64 * y + x).toNat r72 (nA X.2.2.2 x y), s 2106, x + r72, y).1 (x + r72) (fil X.2.2.2 (64 * y + x).toNat r72 (nA X.2.2.2 x y), s 2106, x + r72, y).2.2.2)) := k124
          have b125 : 0 ≤ (s70 2108) ∧ (s70 2108) ≤ 65535 := hS70 2108
          have b126 : 0 ≤ (s116 2112) ∧ (s116 2112) ≤ 1 := hS116 2112
          have b127 : 0 ≤ (s116 2111) ∧ (s116 2111) ≤ 366 := hS116 2111
          have b128 : 0 ≤ (s116 2114) ∧ (s116 2114) ≤ 65535 := hS116 2114
          have b129 : 0 ≤ (s116 2115) ∧ (s116 2115) ≤ 1 := hS116 2115
          have b130 : 0 ≤ (s116 2113) ∧ (s116 2113) ≤ 30 := hS116 2113
          have b131 : 0 ≤ (s116 2116) ∧ (s116 2116) ≤ 1 := hS116 2116
          have e132 : s116 2500 = (s70 2500) := (f118 2500 (by decide))
          have b133 : 0 ≤ (s116 2500) ∧ (s116 2500) ≤ 64 := hS116 2500
          have e134 : s116 2501 = (s70 2501) := (f118 2501 (by decide))
          have b135 : 0 ≤ (s116 2501) ∧ (s116 2501) ≤ 64 := hS116 2501
          have e136 : s116 2502 = (s70 2502) := (f118 2502 (by decide))
          have b137 : 0 ≤ (s116 2502) ∧ (s116 2502) ≤ 3 := hS116 2502
          have e138 : s116 2106 = (s70 2106) := (f118 2106 (by decide))
          have b139 : 0 ≤ (s116 2106) ∧ (s116 2106) ≤ 64 := hS116 2106
          have e140 : s116 2107 = (s70 2107) := (f118 2107 (by decide))
          have b141 : 0 ≤ (s116 2107) ∧ (s116 2107) ≤ 12288 := hS116 2107
          have e142 : s116 902 = (s70 902) := (f118 902 (by decide))
          have b143 : 0 ≤ (s116 902) ∧ (s116 902) ≤ 31 := hS116 902
          have e144 : s116 2001 = (s70 2001) := (f118 2001 (by decide))
          have b145 : 0 ≤ (s116 2001) ∧ (s116 2001) ≤ 100000 := hS116 2001
          have e146 : s116 2002 = (s70 2002) := (f118 2002 (by decide))
          have b147 : 0 ≤ (s116 2002) ∧ (s116 2002) ≤ 255 := hS116 2002
          have e148 : s116 2003 = (s70 2003) := (f118 2003 (by decide))
          have b149 : 0 ≤ (s116 2003) ∧ (s116 2003) ≤ 8 := hS116 2003
          have e150 : s116 601 = (s70 601) := (f118 601 (by decide))
          have b151 : 0 ≤ (s116 601) ∧ (s116 601) ≤ 32768 := hS116 601
          have hx152 : tpl A (s116 601) (c71 (p 600)) := by rw [f118 601 (by decide)]; exact hx102
          have hx153 : zq Z (s116 800) (s116 801) (s116 802) (s116 803) (s116 804) (s116 805) (s116 806) (s116 807) (s116 808) (s116 809) := by rw [f118 800 (by decide), f118 801 (by decide), f118 802 (by decide), f118 803 (by decide), f118 804 (by decide), f118 805 (by decide), f118 806 (by decide), f118 807 (by decide), f118 808 (by decide), f118 809 (by decide)]; exact hx104
          have hbf : nB (fil X.2.2.2 (64 * y + x).toNat r72 (nA X.2.2.2 x y)) (x + r72) y = (nB X.2.2.2 (x + r72) y) := nB_fil (by omega) (by omega)
          have uS : s116 2112 = sS Z (nA X.2.2.2 x y) (nB X.2.2.2 (x + r72) y) := by have h := k119; rw [la8] at h; rw [← hbf]; exact h
          have uP : s116 2111 = 365 + sS Z (nA X.2.2.2 x y) (nB X.2.2.2 (x + r72) y) := by have h := k120; rw [la8] at h; rw [← hbf]; exact h
          have uG : s116 2114 = gS Z (nA X.2.2.2 x y) (nB X.2.2.2 (x + r72) y) := by have h := k121; rw [la8] at h; rw [← hbf]; exact h
          have uT : s116 2115 = tS Z (nA X.2.2.2 x y) (nB X.2.2.2 (x + r72) y) := by have h := k122; rw [la8] at h; rw [← hbf]; exact h
          have uK : s116 2113 = kS X.2.1 (sS Z (nA X.2.2.2 x y) (nB X.2.2.2 (x + r72) y)) := by have h := k123; rw [la8] at h; rw [← hbf]; exact h
          have uO : s116 2116 = oS X.2.1 (sS Z (nA X.2.2.2 x y) (nB X.2.2.2 (x + r72) y)) := by have h := k124; rw [la8] at h; rw [← hbf]; exact h
          clear k119 k120 k121 k122 k123 k124
          have hns := gS_bd (Z := Z) (a := (nA X.2.2.2 x y)) (b := (nB X.2.2.2 (x + r72) y)) (nA_bd hvX.2.1 (by omega) (by omega) (by omega)) (nB_bd hvX.2.1 (by omega) (by omega) (by omega))
          have ugb : 0 ≤ s116 2114 ∧ s116 2114 ≤ Z 3017 := by rw [uG]; exact hns
          have ukb : 0 ≤ s116 2113 ∧ s116 2113 ≤ 16 := by rw [uK]; exact kS_16 hq2 hvX.1 (by omega) sS_01
          have u9 : s116 902 = s70 902 := f118 902 (by decide)
          have u9b : 0 ≤ s116 902 ∧ s116 902 ≤ 22 := by omega
          refine tt_k 2 (S' := (130, [some (.inr (.inl 21)), some (.inr (.inl 25)), some (.inl a_), some (.inl y), some (.inl (x + r72))], [.inl (x + r72), .inr (.inl 21)], n, D, s116, p, c71)) rfl ?_
          have b154 : 0 ≤ (s116 800) ∧ (s116 800) ≤ 65535 := hS116 800
          have b155 : -2147483648 ≤ (s116 801) ∧ (s116 801) ≤ 2147483647 := hS116 801
          have b156 : -2147483648 ≤ (s116 802) ∧ (s116 802) ≤ 2147483647 := hS116 802
          have b157 : -2147483648 ≤ (s116 803) ∧ (s116 803) ≤ 2147483647 := hS116 803
          have b158 : -2147483648 ≤ (s116 804) ∧ (s116 804) ≤ 2147483647 := hS116 804
          have b159 : 0 ≤ (s116 805) ∧ (s116 805) ≤ 65535 := hS116 805
          have b160 : 1 ≤ (s116 806) ∧ (s116 806) ≤ 511 := hS116 806
          have b161 : 0 ≤ (s116 807) ∧ (s116 807) ≤ 65536 := hS116 807
          have b162 : 0 ≤ (s116 808) ∧ (s116 808) ≤ 30 := hS116 808
          have b163 : 0 ≤ (s116 809) ∧ (s116 809) ≤ 64 := hS116 809
          refine tt_cl (by omega) rfl (u_tellStop (Zi := Zi) (q := q) (n := n) (D := D) (s := s116) (p := p) (c := c71) (by omega) hz (by omega) FK85.1 hS116 hC71 hW117 A (64 * y + x) Z X.2.1 (x + r72) (by omega) hx152 (show (0 ≤ (s116 2003) ∧ (s116 2003) ≤ 8) ∧ (0 ≤ (s116 2002) ∧ (s116 2002) ≤ 255) by omega) (show (s116 2001) ≤ (s116 601) by omega) hx103 hx153 hq2 hvX.1 (show 0 ≤ (64 * y + x) ∧ (64 * y + x) ≤ 4095 by omega) (show 0 ≤ (s116 2114) ∧ (s116 2114) ≤ Z 3017 by omega) (show (0 ≤ (s116 2113) ∧ (s116 2113) ≤ 16) ∧ (0 ≤ (s116 2116) ∧ (s116 2116) ≤ 1) ∧ (0 ≤ (s116 2115) ∧ (s116 2115) ≤ 1) by omega) (show (0 ≤ (s116 2112) ∧ (s116 2112) ≤ 1) ∧ (s116 902) ≤ 22 by omega)) ?_
          rintro _ H1 (⟨s164, c165, rfl, rfl, hS164, hC165, hW166, f167, kf168, k169, k170, k171, k172⟩ | ⟨rfl, hY173, hn174⟩)
          rotate_left
          · exact tt_ax rfl (hX12 _ (cXp_mono (cXp_tr FK85 (fr_wk (show fr s s116 [902, 2001, 2002, 2003, 2004, 2108, 2109, 2110, 2111, 2112, 2113, 2114, 2115, 2116] from (fr_tr (fr_tr (fr_tr hF0 f36 (by decide)) f74 (by decide)) f118 (by decide))) (by decide)) ((frp_rf : frp p p []) 8 (by decide)) hY173 (by decide) (by decide)) (by omega)) (plJ_n hI (by omega) (by omega) (stR_pn (w := s 2106) hgz hru (by omega) (rStp_n (a := (nA X.2.2.2 x y)) (b := (nB X.2.2.2 (x + r72) y)) (j := (64 * y + (x + r72)).toNat) (X := ((s70 2001, s70 2002, s70 2003), X.2.1, s70 902, fil X.2.2.2 (64 * y + x).toNat r72 (nA X.2.2.2 x y))) (by have h := hn174; rw [uS, uO, uK, show s116 902 = s70 902 by omega, show s116 2001 = s70 2001 by omega, show s116 2002 = s70 2002 by omega, show s116 2003 = s70 2003 by omega] at h; exact h)))))
          have FK175 : fk p c n p c165 [901, 2104] := fk_tr FK85 kf168 (by decide)
          show tt Zi d 32 (133, [some (.inr (.inl 21)), some (.inr (.inl 25)), some (.inl a_), some (.inl y), some (.inl (x + r72))], [], n, D, s164, p, c165) _
          replace k170 : (0 ≤ (s164 2003) ∧ (s164 2003) ≤ 8) ∧ (0 ≤ (s164 2002) ∧ (s164 2002) ≤ 255) := k170
          replace k171 : (s164 2001) ≤ (s116 601) := k171
          replace k172 : (s164 902) = (if 0 < (s116 902) then (s116 902) - 1 else 0) := k172
          have b176 : 0 ≤ (s164 2001) ∧ (s164 2001) ≤ 100000 := hS164 2001
          have b177 : 0 ≤ (s164 2002) ∧ (s164 2002) ≤ 255 := hS164 2002
          have b178 : 0 ≤ (s164 2003) ∧ (s164 2003) ≤ 8 := hS164 2003
          have b179 : 0 ≤ (s164 902) ∧ (s164 902) ≤ 31 := hS164 902
          have e180 : s164 2500 = (s116 2500) := (f167 2500 (by decide))
          have b181 : 0 ≤ (s164 2500) ∧ (s164 2500) ≤ 64 := hS164 2500
          have e182 : s164 2501 = (s116 2501) := (f167 2501 (by decide))
          have b183 : 0 ≤ (s164 2501) ∧ (s164 2501) ≤ 64 := hS164 2501
          have e184 : s164 2502 = (s116 2502) := (f167 2502 (by decide))
          have b185 : 0 ≤ (s164 2502) ∧ (s164 2502) ≤ 3 := hS164 2502
          have e186 : s164 2106 = (s116 2106) := (f167 2106 (by decide))
          have b187 : 0 ≤ (s164 2106) ∧ (s164 2106) ≤ 64 := hS164 2106
          have e188 : s164 2107 = (s116 2107) := (f167 2107 (by decide))
          have b189 : 0 ≤ (s164 2107) ∧ (s164 2107) ≤ 12288 := hS164 2107
          have e190 : s164 601 = (s116 601) := (f167 601 (by decide))
          have b191 : 0 ≤ (s164 601) ∧ (s164 601) ≤ 32768 := hS164 601
          have hx192 : tpl A (s164 601) (c165 (p 600)) := by rw [f167 601 (by decide), fk_k (k := 600) kf168 (by decide)]; exact hx152
          have hx193 : zq Z (s164 800) (s164 801) (s164 802) (s164 803) (s164 804) (s164 805) (s164 806) (s164 807) (s164 808) (s164 809) := by rw [f167 800 (by decide), f167 801 (by decide), f167 802 (by decide), f167 803 (by decide), f167 804 (by decide), f167 805 (by decide), f167 806 (by decide), f167 807 (by decide), f167 808 (by decide), f167 809 (by decide)]; exact hx153
          obtain ⟨m1, tn, te, tm, tr⟩ := k169
          have tn2 : rdNum A (kS X.2.1 (sS Z (nA X.2.2.2 x y) (nB X.2.2.2 (x + r72) y))) (Z 3026 - 1 - jj (s70 902) - Z 3025 - 1) (Z 3025) (s70 2001, s70 2002, s70 2003) = some (m1, s164 2001, s164 2002, s164 2003) := by rw [← uK, ← show s116 902 = s70 902 by omega, ← show s116 2001 = s70 2001 by omega, ← show s116 2002 = s70 2002 by omega, ← show s116 2003 = s70 2003 by omega]; exact tn
          rw [uS, uO] at te
          rw [uP, uS, uO] at tm
          rw [uG, uT, uS, uO] at tr
          have up_ := k172
          rw [u9] at up_
          refine tt_k 2 (S' := (66, [some (.inr (.inl 21)), some (.inr (.inl 25)), some (.inl a_), some (.inl y), some (.inl ((x + r72) + 1))], [], n, D, s164, p, c165)) rfl ?_
          have hst := stR_p (w := s 2106) hgz hru (by omega) (rStp_s (a := (nA X.2.2.2 x y)) (b := (nB X.2.2.2 (x + r72) y)) (j := (64 * y + (x + r72)).toNat) (X := ((s70 2001, s70 2002, s70 2003), X.2.1, s70 902, fil X.2.2.2 (64 * y + x).toNat r72 (nA X.2.2.2 x y))) tn2 te)
          obtain ⟨hJ, hJ2⟩ := plJ_s hq2 hI (by omega) (by omega) (by omega) (by omega) hst
          have hsm2 := rSm_s hsm (stR_T hvX (by omega) (by omega) (by omega) hst) (by omega)
          have hmin2 : min (x + r72 + 1) (s 2106) = x + (r72 + 1) := by omega
          have hxa : x + (r72 + 1) = x + r72 + 1 := by omega
          have hh2 := hr_st (v := rR Z (gS Z (nA X.2.2.2 x y) (nB X.2.2.2 (x + r72) y)) (tS Z (nA X.2.2.2 x y) (nB X.2.2.2 (x + r72) y)) (eT m1 (sS Z (nA X.2.2.2 x y) (nB X.2.2.2 (x + r72) y)) (oS X.2.1 (sS Z (nA X.2.2.2 x y) (nB X.2.2.2 (x + r72) y))))) hh8 (by omega) (by omega) (by omega)
          exact ih ((x + r72) + 1) s164 c165 (by omega) hS164 (fr_tr (fr_tr (fr_tr (fr_tr hF0 f36 (by decide)) f74 (by decide)) f118 (by decide)) f167 (by decide)) hC165 hW166 FK175 (show ((0 ≤ (s164 2003) ∧ (s164 2003) ≤ 8) ∧ (0 ≤ (s164 2002) ∧ (s164 2002) ≤ 255)) ∧ (s164 2001) ≤ s 601 by omega) ⟨_, (by rw [hmin2]; exact hJ), rfl, tm, up_, (by rw [hmin2, hxa, tr, fk_k (k := 2103) kf168 (by decide)]; exact hh2), hsm2⟩ (show (65 - ((x + r72) + 1)).toNat < m by omega)
      · show tt Zi d 32 (88, [some (.inr (.inl 21)), some (.inr (.inl 25)), some (.inl a_), some (.inl y), some (.inl x)], [], n, D, s34, p, c0) _
        refine tt_k 1 (S' := (89, [some (.inr (.inl 21)), some (.inr (.inl 25)), some (.inl a_), some (.inl y), some (.inl x)], [.inr (.inl 21)], n, D, s34, p, c0)) rfl ?_
        have b194 : 0 ≤ (s34 800) ∧ (s34 800) ≤ 65535 := hS34 800
        have b195 : -2147483648 ≤ (s34 801) ∧ (s34 801) ≤ 2147483647 := hS34 801
        have b196 : -2147483648 ≤ (s34 802) ∧ (s34 802) ≤ 2147483647 := hS34 802
        have b197 : -2147483648 ≤ (s34 803) ∧ (s34 803) ≤ 2147483647 := hS34 803
        have b198 : -2147483648 ≤ (s34 804) ∧ (s34 804) ≤ 2147483647 := hS34 804
        have b199 : 0 ≤ (s34 805) ∧ (s34 805) ≤ 65535 := hS34 805
        have b200 : 1 ≤ (s34 806) ∧ (s34 806) ≤ 511 := hS34 806
        have b201 : 0 ≤ (s34 807) ∧ (s34 807) ≤ 65536 := hS34 807
        have b202 : 0 ≤ (s34 808) ∧ (s34 808) ≤ 30 := hS34 808
        have b203 : 0 ≤ (s34 809) ∧ (s34 809) ≤ 64 := hS34 809
        refine tt_cl (by omega) rfl (u_aim (Zi := Zi) (q := q) (n := n) (D := D) (s := s34) (p := p) (c := c0) (by omega) hz (by omega) hK0.1 hS34 hC0 hW35 (64 * y + x) Z X.2.1 hmr hx68 hq2 hvX.1 (show 0 ≤ (64 * y + x) ∧ (64 * y + x) ≤ 4095 by omega)) ?_
        rintro _ _ ⟨s204, rfl, rfl, hS204, hW205, f206, k207, k208, k209⟩
        show tt Zi d 32 (92, [some (.inr (.inl 21)), some (.inr (.inl 25)), some (.inl a_), some (.inl y), some (.inl x)], [], n, D, s204, p, c0) _
        replace k207 : (s204 2114) = gR Z ((s34 2108)) ((s34 2109)) ((s34 2110)) ((s34 2115)) ((s34 2111)).toNat X.2.1 := k207
        replace k208 : (s204 2113) = ke (X.2.1 36 ((s34 2111)).toNat) (X.2.1 39 ((s34 2111)).toNat) := k208
        replace k209 : (s204 2116) = oR Z ((s34 2111)).toNat X.2.1 := k209
        have b210 : 0 ≤ (s204 2114) ∧ (s204 2114) ≤ 65535 := hS204 2114
        have b211 : 0 ≤ (s204 2113) ∧ (s204 2113) ≤ 30 := hS204 2113
        have b212 : 0 ≤ (s204 2116) ∧ (s204 2116) ≤ 1 := hS204 2116
        have e213 : s204 2500 = (s34 2500) := (f206 2500 (by decide))
        have b214 : 0 ≤ (s204 2500) ∧ (s204 2500) ≤ 64 := hS204 2500
        have e215 : s204 2501 = (s34 2501) := (f206 2501 (by decide))
        have b216 : 0 ≤ (s204 2501) ∧ (s204 2501) ≤ 64 := hS204 2501
        have e217 : s204 2502 = (s34 2502) := (f206 2502 (by decide))
        have b218 : 0 ≤ (s204 2502) ∧ (s204 2502) ≤ 3 := hS204 2502
        have e219 : s204 2106 = (s34 2106) := (f206 2106 (by decide))
        have b220 : 0 ≤ (s204 2106) ∧ (s204 2106) ≤ 64 := hS204 2106
        have e221 : s204 2107 = (s34 2107) := (f206 2107 (by decide))
        have b222 : 0 ≤ (s204 2107) ∧ (s204 2107) ≤ 12288 := hS204 2107
        have e223 : s204 902 = (s34 902) := (f206 902 (by decide))
        have b224 : 0 ≤ (s204 902) ∧ (s204 902) ≤ 31 := hS204 902
        have e225 : s204 2001 = (s34 2001) := (f206 2001 (by decide))
        have b226 : 0 ≤ (s204 2001) ∧ (s204 2001) ≤ 100000 := hS204 2001
        have e227 : s204 2002 = (s34 2002) := (f206 2002 (by decide))
        have b228 : 0 ≤ (s204 2002) ∧ (s204 2002) ≤ 255 := hS204 2002
        have e229 : s204 2003 = (s34 2003) := (f206 2003 (by decide))
        have b230 : 0 ≤ (s204 2003) ∧ (s204 2003) ≤ 8 := hS204 2003
        have e231 : s204 601 = (s34 601) := (f206 601 (by decide))
        have b232 : 0 ≤ (s204 601) ∧ (s204 601) ≤ 32768 := hS204 601
        have hx233 : tpl A (s204 601) (c0 (p 600)) := by rw [f206 601 (by decide)]; exact hx67
        have hx234 : zq Z (s204 800) (s204 801) (s204 802) (s204 803) (s204 804) (s204 805) (s204 806) (s204 807) (s204 808) (s204 809) := by rw [f206 800 (by decide), f206 801 (by decide), f206 802 (by decide), f206 803 (by decide), f206 804 (by decide), f206 805 (by decide), f206 806 (by decide), f206 807 (by decide), f206 808 (by decide), f206 809 (by decide)]; exact hx68
        have hgn : (gsT Z (s 2106) y x X.2.2.2) ≠ 0 := by omega
        have ag : s204 2114 = gR Z (nA X.2.2.2 x y) (nB X.2.2.2 x y) (nC X.2.2.2 x y) (if (gsT Z (s 2106) y x X.2.2.2) < 0 then 1 else 0) (fA (gsT Z (s 2106) y x X.2.2.2)).toNat X.2.1 := by rw [k207, la, lb, lc, lt, lp]
        have ak : s204 2113 = ke (X.2.1 36 (fA (gsT Z (s 2106) y x X.2.2.2)).toNat) (X.2.1 39 (fA (gsT Z (s 2106) y x X.2.2.2)).toNat) := by rw [k208, lp]
        have ao : s204 2116 = oR Z (fA (gsT Z (s 2106) y x X.2.2.2)).toNat X.2.1 := by rw [k209, lp]
        have at_ : s204 2115 = (if (gsT Z (s 2106) y x X.2.2.2) < 0 then 1 else 0) := (f206 2115 (by decide)).trans lt
        have ap : s204 2111 = fA (gsT Z (s 2106) y x X.2.2.2) := (f206 2111 (by decide)).trans lp
        have agb : 0 ≤ s204 2114 ∧ s204 2114 ≤ Z 3017 := by rw [ag]; exact fW_bd hq2
        have akb : 0 ≤ s204 2113 ∧ s204 2113 ≤ 16 := by rw [ak]; exact ke_16 hq2 hvX.1 (by omega) (by omega)
        clear k207 k208 k209
        have b235 : 0 ≤ (s204 2115) ∧ (s204 2115) ≤ 1 := hS204 2115
        refine tt_k 2 (S' := (95, [some (.inr (.inl 21)), some (.inr (.inl 25)), some (.inl a_), some (.inl y), some (.inl x)], [.inl x, .inr (.inl 21)], n, D, s204, p, c0)) rfl ?_
        have b236 : 0 ≤ (s204 800) ∧ (s204 800) ≤ 65535 := hS204 800
        have b237 : -2147483648 ≤ (s204 801) ∧ (s204 801) ≤ 2147483647 := hS204 801
        have b238 : -2147483648 ≤ (s204 802) ∧ (s204 802) ≤ 2147483647 := hS204 802
        have b239 : -2147483648 ≤ (s204 803) ∧ (s204 803) ≤ 2147483647 := hS204 803
        have b240 : -2147483648 ≤ (s204 804) ∧ (s204 804) ≤ 2147483647 := hS204 804
        have b241 : 0 ≤ (s204 805) ∧ (s204 805) ≤ 65535 := hS204 805
        have b242 : 1 ≤ (s204 806) ∧ (s204 806) ≤ 511 := hS204 806
        have b243 : 0 ≤ (s204 807) ∧ (s204 807) ≤ 65536 := hS204 807
        have b244 : 0 ≤ (s204 808) ∧ (s204 808) ≤ 30 := hS204 808
        have b245 : 0 ≤ (s204 809) ∧ (s204 809) ≤ 64 := hS204 809
        refine tt_cl (by omega) rfl (u_tellSample (Zi := Zi) (q := q) (n := n) (D := D) (s := s204) (p := p) (c := c0) (by omega) hz (by omega) hK0.1 hS204 hC0 hW205 A (64 * y + x) Z X.2.1 x (by omega) hx233 (show (0 ≤ (s204 2003) ∧ (s204 2003) ≤ 8) ∧ (0 ≤ (s204 2002) ∧ (s204 2002) ≤ 255) by omega) (show (s204 2001) ≤ (s204 601) by omega) hmr hx234 hq2 hvX.1 (show 0 ≤ (64 * y + x) ∧ (64 * y + x) ≤ 4095 by omega) (show 0 ≤ (s204 2114) ∧ (s204 2114) ≤ Z 3017 by omega) (show (0 ≤ (s204 2113) ∧ (s204 2113) ≤ 16) ∧ (0 ≤ (s204 2116) ∧ (s204 2116) ≤ 1) ∧ (0 ≤ (s204 2115) ∧ (s204 2115) ≤ 1) by omega)) ?_
        rintro _ H1 (⟨s246, c247, rfl, rfl, hS246, hC247, hW248, f249, kf250, k251, k252, k253⟩ | ⟨rfl, hY254, hn255⟩)
        rotate_left
        · exact tt_ax rfl (hX12 _ (cXp_mono (cXp_tr hK0 (fr_wk (show fr s s204 [902, 2001, 2002, 2003, 2004, 2108, 2109, 2110, 2111, 2112, 2113, 2114, 2115, 2116] from (fr_tr (fr_tr hF0 f36 (by decide)) f206 (by decide))) (by decide)) ((frp_rf : frp p p []) 8 (by decide)) hY254 (by decide) (by decide)) (by omega)) (plJ_n hI (by omega) (by omega) (stR_rn (w := s 2106) hgn (rReg_n (a := (nA X.2.2.2 x y)) (b := (nB X.2.2.2 x y)) (c := (nC X.2.2.2 x y)) (t := (if (gsT Z (s 2106) y x X.2.2.2) < 0 then 1 else 0)) (i := (fA (gsT Z (s 2106) y x X.2.2.2)).toNat) (j := (64 * y + x).toNat) (X := X) (by have h := hn255; rw [ao, ak, show s204 2001 = s0 2001 by omega, show s204 2002 = s0 2002 by omega, show s204 2003 = s0 2003 by omega] at h; rw [hrd]; exact h)))))
        have FK256 : fk p c n p c247 [901, 2104] := fk_tr hK0 kf250 (by decide)
        show tt Zi d 32 (98, [some (.inr (.inl 21)), some (.inr (.inl 25)), some (.inl a_), some (.inl y), some (.inl x)], [], n, D, s246, p, c247) _
        replace k252 : (0 ≤ (s246 2003) ∧ (s246 2003) ≤ 8) ∧ (0 ≤ (s246 2002) ∧ (s246 2002) ≤ 255) := k252
        replace k253 : (s246 2001) ≤ (s204 601) := k253
        have b257 : 0 ≤ (s204 2111) ∧ (s204 2111) ≤ 366 := hS204 2111
        have b258 : 0 ≤ (s246 2001) ∧ (s246 2001) ≤ 100000 := hS246 2001
        have b259 : 0 ≤ (s246 2002) ∧ (s246 2002) ≤ 255 := hS246 2002
        have b260 : 0 ≤ (s246 2003) ∧ (s246 2003) ≤ 8 := hS246 2003
        have e261 : s246 2500 = (s204 2500) := (f249 2500 (by decide))
        have b262 : 0 ≤ (s246 2500) ∧ (s246 2500) ≤ 64 := hS246 2500
        have e263 : s246 2501 = (s204 2501) := (f249 2501 (by decide))
        have b264 : 0 ≤ (s246 2501) ∧ (s246 2501) ≤ 64 := hS246 2501
        have e265 : s246 2502 = (s204 2502) := (f249 2502 (by decide))
        have b266 : 0 ≤ (s246 2502) ∧ (s246 2502) ≤ 3 := hS246 2502
        have e267 : s246 2106 = (s204 2106) := (f249 2106 (by decide))
        have b268 : 0 ≤ (s246 2106) ∧ (s246 2106) ≤ 64 := hS246 2106
        have e269 : s246 2107 = (s204 2107) := (f249 2107 (by decide))
        have b270 : 0 ≤ (s246 2107) ∧ (s246 2107) ≤ 12288 := hS246 2107
        have e271 : s246 902 = (s204 902) := (f249 902 (by decide))
        have b272 : 0 ≤ (s246 902) ∧ (s246 902) ≤ 31 := hS246 902
        have e273 : s246 601 = (s204 601) := (f249 601 (by decide))
        have b274 : 0 ≤ (s246 601) ∧ (s246 601) ≤ 32768 := hS246 601
        have hx275 : tpl A (s246 601) (c247 (p 600)) := by rw [f249 601 (by decide), fk_k (k := 600) kf250 (by decide)]; exact hx233
        have hx276 : zq Z (s246 800) (s246 801) (s246 802) (s246 803) (s246 804) (s246 805) (s246 806) (s246 807) (s246 808) (s246 809) := by rw [f249 800 (by decide), f249 801 (by decide), f249 802 (by decide), f249 803 (by decide), f249 804 (by decide), f249 805 (by decide), f249 806 (by decide), f249 807 (by decide), f249 808 (by decide), f249 809 (by decide)]; exact hx234
        obtain ⟨m1, tn, te, tm, tr⟩ := k251
        have tn2 : rdNum A (ke (X.2.1 36 (fA (gsT Z (s 2106) y x X.2.2.2)).toNat) (X.2.1 39 (fA (gsT Z (s 2106) y x X.2.2.2)).toNat)) (Z 3026 - Z 3025 - 1) (Z 3025) X.1 = some (m1, s246 2001, s246 2002, s246 2003) := by rw [hrd, ← ak, ← show s204 2001 = s0 2001 by omega, ← show s204 2002 = s0 2002 by omega, ← show s204 2003 = s0 2003 by omega]; exact tn
        rw [ao] at te
        rw [ap, ao] at tm
        rw [ag, at_, ao] at tr
        refine tt_k 3 (S' := (66, [some (.inr (.inl 21)), some (.inr (.inl 25)), some (.inl a_), some (.inl y), some (.inl (x + 1))], [], n, D, s246, p, c247)) rfl ?_
        have hst := stR_r (w := s 2106) hgn (rReg_s (a := (nA X.2.2.2 x y)) (b := (nB X.2.2.2 x y)) (c := (nC X.2.2.2 x y)) (t := (if (gsT Z (s 2106) y x X.2.2.2) < 0 then 1 else 0)) (i := (fA (gsT Z (s 2106) y x X.2.2.2)).toNat) (j := (64 * y + x).toNat) (X := X) tn2 te)
        obtain ⟨hJ, hJ2⟩ := plJ_s hq2 hI (by omega) (by omega) (by omega) (by omega) hst
        have hsm2 := rSm_s hsm (stR_T hvX (by omega) (by omega) (by omega) hst) (by omega)
        have hh2 := hr_st (v := rR Z (gR Z (nA X.2.2.2 x y) (nB X.2.2.2 x y) (nC X.2.2.2 x y) (if (gsT Z (s 2106) y x X.2.2.2) < 0 then 1 else 0) (fA (gsT Z (s 2106) y x X.2.2.2)).toNat X.2.1) (if (gsT Z (s 2106) y x X.2.2.2) < 0 then 1 else 0) (eM m1 (oR Z (fA (gsT Z (s 2106) y x X.2.2.2)).toNat X.2.1))) hhr (by omega) (by omega) (by omega)
        have hmin2 : min (x + 1) (s 2106) = x + 1 := by omega
        exact ih (x + 1) s246 c247 (by omega) hS246 (fr_tr (fr_tr (fr_tr hF0 f36 (by decide)) f206 (by decide)) f249 (by decide)) hC247 hW248 FK256 (show ((0 ≤ (s246 2003) ∧ (s246 2003) ≤ 8) ∧ (0 ≤ (s246 2002) ∧ (s246 2002) ≤ 255)) ∧ (s246 2001) ≤ s 601 by omega) ⟨_, (by rw [hmin2]; exact hJ), rfl, tm, (by show s246 902 = X.2.2.1; omega), (by rw [hmin2, tr, fk_k (k := 2103) kf250 (by decide)]; exact hh2), hsm2⟩ (show (65 - (x + 1)).toNat < m by omega)

set_option maxRecDepth 100000 in
set_option maxHeartbeats 4000000 in
theorem u_tellPlane25_L40 {g : Nat → Int} {Zi : Nat → Option (Nat × (Nat → Int))} {d n q : Nat} {D : Nat → Nat × Nat} {s : Nat → Int} {p : Nat → Nat} {c : Nat → Nat → Int}  {Q : mi_Rs → mi_H → Prop} (hd : 8 ≤ d) (hz : zk Zi) (hq : q + 16 ≤ 400001) (hD : wd n p) (hS : bS s) (hC : bC D c) (hW : wp q g n D p s) (A : TN) (Z : Nat → Int) (R : Option XR) (a_ : Int) (b_a_ : 0 ≤ a_ ∧ a_ ≤ 2) (hq0 : s 2500 * s 2501 * s 2502 ≤ (ln D (p 2105) : Int)) (hq1 : s 2106 = s 2500) (hq2 : a_ < s 2502 ∧ 1 ≤ s 2500) (hq3 : p 2105 = p 2504) (hq4 : zq Z (s 800) (s 801) (s 802) (s 803) (s 804) (s 805) (s 806) (s 807) (s 808) (s 809)) (hq5 : mv Z) (hq6 : tpl A (s 601) (c (p 600))) (hX12 : ∀ H, cXp (q + 1) g s p c [901, 2103, 2104, 2504] [800, 801, 802, 803, 804, 805, 806, 807, 808, 809, 902, 1705, 1706, 2001, 2002, 2003, 2004, 2005, 2006, 2106, 2107, 2108, 2109, 2110, 2111, 2112, 2113, 2114, 2115, 2116] H → (R = none) → Q (.inr 12) H)
  (hK : ∀ (y : Int) (o_4 : Option mi_V) (s0 : Nat → Int) (p0 : Nat → Nat) (c0 : Nat → Nat → Int) (b_y : 0 ≤ y ∧ y ≤ 64) (hS0 : bS s0) (hF0 : fr s s0 [902, 2001, 2002, 2003, 2004, 2107, 2108, 2109, 2110, 2111, 2112, 2113, 2114, 2115, 2116]) (hC0 : bC D c0) (hW0 : wp q g n D p0 s0) (hP0 : frp p p0 [2103, 2104]) (hK0 : fk p c n p0 c0 [901, 2103, 2104, 2504]) (i0 : y ≤ s 2501) (i1 : ((0 ≤ s0 2003 ∧ s0 2003 ≤ 8) ∧ (0 ≤ s0 2002 ∧ s0 2002 ≤ 255)) ∧ s0 2001 ≤ s 601) (i2 : rdO A Z (s 2501) R y (s 2106) (s0 902) (s0 2001, s0 2002, s0 2003) (c0 (p0 901)) (c0 (p0 2104)) (c0 (p0 2504)) (c (p 2504)) (a_ * s 2501)), (s 2501 ≤ y) → tt Zi d 32 (149, [some (.inr (.inl 21)), some (.inr (.inl 25)), some (.inl a_), some (.inl y), o_4], [], n, D, s0, p0, c0) Q) :
  ∀ (m : Nat) (y : Int) (o_4 : Option mi_V) (s0 : Nat → Int) (p0 : Nat → Nat) (c0 : Nat → Nat → Int) (b_y : 0 ≤ y ∧ y ≤ 64) (hS0 : bS s0) (hF0 : fr s s0 [902, 2001, 2002, 2003, 2004, 2107, 2108, 2109, 2110, 2111, 2112, 2113, 2114, 2115, 2116]) (hC0 : bC D c0) (hW0 : wp q g n D p0 s0) (hP0 : frp p p0 [2103, 2104]) (hK0 : fk p c n p0 c0 [901, 2103, 2104, 2504]) (i0 : y ≤ s 2501) (i1 : ((0 ≤ s0 2003 ∧ s0 2003 ≤ 8) ∧ (0 ≤ s0 2002 ∧ s0 2002 ≤ 255)) ∧ s0 2001 ≤ s 601) (i2 : rdO A Z (s 2501) R y (s 2106) (s0 902) (s0 2001, s0 2002, s0 2003) (c0 (p0 901)) (c0 (p0 2104)) (c0 (p0 2504)) (c (p 2504)) (a_ * s 2501)), (s 2501 - y).toNat < m → tt Zi d 32 (40, [some (.inr (.inl 21)), some (.inr (.inl 25)), some (.inl a_), some (.inl y), o_4], [], n, D, s0, p0, c0) Q := by
  intro m
  induction m with
  | zero => intro y o_4 s0 p0 c0 b_y hS0 hF0 hC0 hW0 hP0 hK0 i0 i1 i2 hm; exact absurd hm (by omega)
  | succ m ih =>
    intro y o_4 s0 p0 c0 b_y hS0 hF0 hC0 hW0 hP0 hK0 i0 i1 i2 hm
    have e1 : s0 2500 = s 2500 := hF0 2500 (by decide)
    have b2 : 0 ≤ (s0 2500) ∧ (s0 2500) ≤ 64 := hS0 2500
    have b3 : 0 ≤ (s 2500) ∧ (s 2500) ≤ 64 := hS 2500
    have e4 : s0 2501 = s 2501 := hF0 2501 (by decide)
    have b5 : 0 ≤ (s0 2501) ∧ (s0 2501) ≤ 64 := hS0 2501
    have b6 : 0 ≤ (s 2501) ∧ (s 2501) ≤ 64 := hS 2501
    have e7 : s0 2502 = s 2502 := hF0 2502 (by decide)
    have b8 : 0 ≤ (s0 2502) ∧ (s0 2502) ≤ 3 := hS0 2502
    have b9 : 0 ≤ (s 2502) ∧ (s 2502) ≤ 3 := hS 2502
    have e10 : s0 2106 = s 2106 := hF0 2106 (by decide)
    have b11 : 0 ≤ (s0 2106) ∧ (s0 2106) ≤ 64 := hS0 2106
    have b12 : 0 ≤ (s 2106) ∧ (s 2106) ≤ 64 := hS 2106
    have e13 : s0 601 = s 601 := hF0 601 (by decide)
    have b14 : 0 ≤ (s0 601) ∧ (s0 601) ≤ 32768 := hS0 601
    have b15 : 0 ≤ (s 601) ∧ (s 601) ≤ 32768 := hS 601
    have b16 : ln D (p0 2105) ≤ 12288 := (hW0).s21.2.2
    have el : ln D (p0 2105) = ln D (p 2105) := by rw [hP0 2105 (by decide)]
    have b17 : 0 ≤ (s0 902) ∧ (s0 902) ≤ 31 := hS0 902
    have b18 : 0 ≤ (s0 2001) ∧ (s0 2001) ≤ 100000 := hS0 2001
    have b19 : 0 ≤ (s0 2002) ∧ (s0 2002) ≤ 255 := hS0 2002
    have b20 : 0 ≤ (s0 2003) ∧ (s0 2003) ≤ 8 := hS0 2003
    obtain ⟨X, hI, hrd, hmr, hpc, hhe, hsm, hot⟩ := i2
    have hz0 : zq Z (s0 800) (s0 801) (s0 802) (s0 803) (s0 804) (s0 805) (s0 806) (s0 807) (s0 808) (s0 809) := by rw [hF0 800 (by decide), hF0 801 (by decide), hF0 802 (by decide), hF0 803 (by decide), hF0 804 (by decide), hF0 805 (by decide), hF0 806 (by decide), hF0 807 (by decide), hF0 808 (by decide), hF0 809 (by decide)]; exact hq4
    have htp : tpl A (s0 601) (c0 (p0 600)) := by rw [hF0 601 (by decide), fk_k (k := 600) hK0 (by decide)]; exact hq6
    refine tt_k 3 (S' := (45, [some (.inr (.inl 21)), some (.inr (.inl 25)), some (.inl a_), some (.inl y), o_4], [.inl (s0 2501), .inl y], n, D, s0, p0, c0)) rfl ?_
    refine tb_ge (x := y) (y := (s0 2501)) rfl rfl (by omega) (fun h21 => ?_) (fun h21 => ?_)
    · show tt Zi d 32 (149, [some (.inr (.inl 21)), some (.inr (.inl 25)), some (.inl a_), some (.inl y), o_4], [], n, D, s0, p0, c0) _
      exact hK y (o_4) s0 p0 c0 (by omega) hS0 hF0 hC0 hW0 hP0 hK0 (show y ≤ s 2501 by omega) (show ((0 ≤ (s0 2003) ∧ (s0 2003) ≤ 8) ∧ (0 ≤ (s0 2002) ∧ (s0 2002) ≤ 255)) ∧ (s0 2001) ≤ s 601 by omega) ⟨X, hI, hrd, hmr, hpc, hhe, hsm, hot⟩ (by omega)
    · show tt Zi d 32 (48, [some (.inr (.inl 21)), some (.inr (.inl 25)), some (.inl a_), some (.inl y), o_4], [], n, D, s0, p0, c0) _
      refine tt_k 5 (S' := (53, [some (.inr (.inl 21)), some (.inr (.inl 25)), some (.inl a_), some (.inl y), o_4], [.inl y, .inl 0, .inl a_, .inr (.inl 25), .inr (.inl 21)], n, D, s0, p0, c0)) rfl ?_
      refine tt_cl (by omega) rfl (g_index25 (Zi := Zi) (q := q) (n := n) (D := D) (s := s0) (p := p0) (c := c0) (by omega) hz (by omega) hK0.1 hS0 hC0 hW0 a_ 0 y (by omega) (by omega) (by omega) (show a_ < (s0 2502) ∧ 0 < (s0 2500) ∧ y < (s0 2501) by omega)) ?_
      rintro _ _ ⟨r22, rfl, rfl, b23, k24, k25⟩
      show tt Zi d 32 (56, [some (.inr (.inl 21)), some (.inr (.inl 25)), some (.inl a_), some (.inl y), o_4], [.inl r22, .inr (.inl 21)], n, D, s0, p0, c0) _
      replace k24 : r22 = (a_ * (s0 2501) + y) * (s0 2500) + 0 := k24
      replace k25 : r22 + (s0 2500) - 0 ≤ (s0 2500) * (s0 2501) * (s0 2502) := k25
      have hmm : (s0 2500) * (s0 2501) * (s0 2502) = s 2500 * s 2501 * s 2502 := by rw [show (s0 2500) = s 2500 by omega, show (s0 2501) = s 2501 by omega, show (s0 2502) = s 2502 by omega]
      have hrs : r22 = (a_ * s 2501 + y) * s 2500 + 0 := by have h := k24; rw [show (s0 2501) = s 2501 by omega, show (s0 2500) = s 2500 by omega] at h; exact h
      refine tt_k 2 (S' := (60, [some (.inr (.inl 21)), some (.inr (.inl 25)), some (.inl a_), some (.inl y), o_4], [.inr (.inl 21)], n, D, (us s0 2107 r22), p0, c0)) rfl ?_
      refine tt_cl (by omega) rfl (u_openRow (Zi := Zi) (q := q) (n := n) (D := D) (s := (us s0 2107 r22)) (p := p0) (c := c0) (by omega) hz (by omega) hK0.1 (bS_us hS0 (show 0 ≤ r22 ∧ r22 ≤ 12288 by omega)) hC0 (wp_us (by decide) hW0) X.2.2.2 y (by have e6 : s0 2106 = s 2106 := hF0 2106 (by decide); show hE X.2.2.2 (s0 2106) y _; rw [e6]; exact hhe) (show 1 ≤ (s0 2106) by omega)) ?_
      rintro _ _ ⟨p26, c27, rfl, rfl, hC27, hW28, g29, kf30, k31⟩
      have FK32 : fk p c n p26 c27 [901, 2103, 2104, 2504] := fk_tr hK0 kf30 (by decide)
      show tt Zi d 32 (63, [some (.inr (.inl 21)), some (.inr (.inl 25)), some (.inl a_), some (.inl y), o_4], [], n, D, (us s0 2107 r22), p26, c27) _
      have e33 : ln D (p26 2105) = ln D (p0 2105) := (congrArg (ln D) (g29 2105 (by decide)))
      have hx34 : tpl A (s0 601) (c27 (p26 600)) := by rw [fk_k (k := 600) kf30 (by decide)]; exact htp
      have hx35 : mrc X.2.1 (c27 (p26 901)) := by rw [fk_k (k := 901) kf30 (by decide)]; exact hmr
      have hhr : hrm (X.2.2.2, s 2106, 0, y) (c27 (p26 2104)) (c27 (p26 2103)) := by have h : hrm (X.2.2.2, s0 2106, 0, y) (c27 (p26 2104)) (c27 (p26 2103)) := k31; rw [show s0 2106 = s 2106 from hF0 2106 (by decide)] at h; exact h
      refine tt_k 2 (S' := (66, [some (.inr (.inl 21)), some (.inr (.inl 25)), some (.inl a_), some (.inl y), some (.inl 0)], [], n, D, (us s0 2107 r22), p26, c27)) rfl ?_
      have b36 : 0 ≤ (s0 800) ∧ (s0 800) ≤ 65535 := hS0 800
      have b37 : -2147483648 ≤ (s0 801) ∧ (s0 801) ≤ 2147483647 := hS0 801
      have b38 : -2147483648 ≤ (s0 802) ∧ (s0 802) ≤ 2147483647 := hS0 802
      have b39 : -2147483648 ≤ (s0 803) ∧ (s0 803) ≤ 2147483647 := hS0 803
      have b40 : -2147483648 ≤ (s0 804) ∧ (s0 804) ≤ 2147483647 := hS0 804
      have b41 : 0 ≤ (s0 805) ∧ (s0 805) ≤ 65535 := hS0 805
      have b42 : 1 ≤ (s0 806) ∧ (s0 806) ≤ 511 := hS0 806
      have b43 : 0 ≤ (s0 807) ∧ (s0 807) ≤ 65536 := hS0 807
      have b44 : 0 ≤ (s0 808) ∧ (s0 808) ≤ 30 := hS0 808
      have b45 : 0 ≤ (s0 809) ∧ (s0 809) ≤ 64 := hS0 809
      refine u_tellPlane25_L66 (Zi := Zi) (q := q) (n := n) (D := D) (s := (us s0 2107 r22)) (p := p26) (c := c27) hd hz (by omega) FK32.1 (bS_us hS0 (show 0 ≤ r22 ∧ r22 ≤ 12288 by omega)) hC27 hW28 A Z (s 2501) R (c27 (p26 2504)) (a_ * s 2501) a_ y (by omega) (by omega) (show 1 ≤ (s0 2106) ∧ y < (s 2501) ∧ (s 2501) ≤ 64 by omega) hz0 hq5 hx34 (fun H h hq9 => hX12 H (cXp_mono (cXp_tr FK32 (fr_wk (show fr s (us s0 2107 r22) [902, 2001, 2002, 2003, 2004, 2107, 2108, 2109, 2110, 2111, 2112, 2113, 2114, 2115, 2116] from (fr_us (by decide) hF0)) (by decide)) (((frp_tr hP0 g29 (by decide)) : frp p p26 [2103, 2104]) 8 (by decide)) h (by decide) (by decide)) (by omega)) hq9) ?_ _ 0 (us s0 2107 r22) c27 (by omega) (bS_us hS0 (show 0 ≤ r22 ∧ r22 ≤ 12288 by omega)) fr_rf hC27 hW28 (fk_rf FK32.1) (show ((0 ≤ (s0 2003) ∧ (s0 2003) ≤ 8) ∧ (0 ≤ (s0 2002) ∧ (s0 2002) ≤ 255)) ∧ (s0 2001) ≤ (s0 601) by omega) (by have e6 : s0 2106 = s 2106 := hF0 2106 (by decide); have em : min 0 (s 2106) = 0 := (by omega); exact ⟨X, (by show plJ A Z (s0 2106) (s 2501) R y (min 0 (s0 2106)) X; rw [e6, em]; exact hI), hrd, hx35, hpc, (by show hrm (X.2.2.2, s0 2106, min 0 (s0 2106), y) _ _; rw [e6, em]; exact hhr), (by show rSm (a_ * s 2501) (s0 2106) y X.2.2.2 _; rw [e6, fk_k (k := 2504) kf30 (by decide)]; exact hsm)⟩) (Nat.lt_succ_self _)
      intro x46 s47 c48 b49 hS47 f50 hC48 hW51 kf52 i53 i54 hx55
      show tt Zi d 32 (139, [some (.inr (.inl 21)), some (.inr (.inl 25)), some (.inl a_), some (.inl y), some (.inl x46)], [], n, D, s47, p26, c48) _
      have FK56 : fk p c n p26 c48 [901, 2103, 2104, 2504] := fk_tr FK32 kf52 (by decide)
      replace i53 : ((0 ≤ (s47 2003) ∧ (s47 2003) ≤ 8) ∧ (0 ≤ (s47 2002) ∧ (s47 2002) ≤ 255)) ∧ (s47 2001) ≤ (s0 601) := i53
      have b57 : 0 ≤ (s47 2003) ∧ (s47 2003) ≤ 8 := hS47 2003
      have b58 : 0 ≤ (s47 2002) ∧ (s47 2002) ≤ 255 := hS47 2002
      have b59 : 0 ≤ (s47 2001) ∧ (s47 2001) ≤ 100000 := hS47 2001
      replace hx55 : (s0 2106) ≤ x46 := hx55
      have e60 : s47 2500 = (s0 2500) := (f50 2500 (by decide))
      have b61 : 0 ≤ (s47 2500) ∧ (s47 2500) ≤ 64 := hS47 2500
      have e62 : s47 2501 = (s0 2501) := (f50 2501 (by decide))
      have b63 : 0 ≤ (s47 2501) ∧ (s47 2501) ≤ 64 := hS47 2501
      have e64 : s47 2502 = (s0 2502) := (f50 2502 (by decide))
      have b65 : 0 ≤ (s47 2502) ∧ (s47 2502) ≤ 3 := hS47 2502
      have e66 : s47 2106 = (s0 2106) := (f50 2106 (by decide))
      have b67 : 0 ≤ (s47 2106) ∧ (s47 2106) ≤ 64 := hS47 2106
      have e68 : s47 2107 = r22 := (f50 2107 (by decide))
      have b69 : 0 ≤ (s47 2107) ∧ (s47 2107) ≤ 12288 := hS47 2107
      have e70 : s47 601 = (s0 601) := (f50 601 (by decide))
      have b71 : 0 ≤ (s47 601) ∧ (s47 601) ≤ 32768 := hS47 601
      have hx72 : tpl A (s47 601) (c48 (p26 600)) := by rw [f50 601 (by decide), fk_k (k := 600) kf52 (by decide)]; exact hx34
      have hx73 : zq Z (s47 800) (s47 801) (s47 802) (s47 803) (s47 804) (s47 805) (s47 806) (s47 807) (s47 808) (s47 809) := by rw [f50 800 (by decide), f50 801 (by decide), f50 802 (by decide), f50 803 (by decide), f50 804 (by decide), f50 805 (by decide), f50 806 (by decide), f50 807 (by decide), f50 808 (by decide), f50 809 (by decide)]; exact hz0
      have hr0 : rdC A Z (s 2501) R y x46 (s 2106) (s47 902) (s47 2001, s47 2002, s47 2003) (c48 (p26 901)) (c48 (p26 2104)) (c48 (p26 2103)) (c27 (p26 2504)) (a_ * s 2501) := by have h := i54; have e6 : s0 2106 = s 2106 := hF0 2106 (by decide); exact e6 ▸ h
      obtain ⟨X9, hI9, hrd9, hmr9, hpc9, hhr9, hsm9⟩ := hr0
      have hm9 : min x46 (s 2106) = s 2106 := by omega
      rw [hm9] at hI9 hhr9
      have hk9 : c48 (p26 2504) = c27 (p26 2504) := fk_k (k := 2504) kf52 (by decide)
      rw [← hk9] at hsm9
      have hot9 : rOt (a_ * s 2501) (s 2106) y (c48 (p26 2504)) (c (p 2504)) := by rw [hk9, fk_k (k := 2504) kf30 (by decide)]; exact hot
      refine tt_k 1 (S' := (140, [some (.inr (.inl 21)), some (.inr (.inl 25)), some (.inl a_), some (.inl y), some (.inl x46)], [.inr (.inl 21)], n, D, s47, p26, c48)) rfl ?_
      refine tt_cl (by omega) rfl (u_closeRow25 (Zi := Zi) (q := q) (n := n) (D := D) (s := s47) (p := p26) (c := c48) (by omega) hz (by omega) FK56.1 hS47 hC48 hW51 (show (s47 2107) + (s47 2106) ≤ (ln D (p26 2105) : Int) by omega) ((((g29 2105 (by decide)).trans (hP0 2105 (by decide)))).trans (hq3.trans (((g29 2504 (by decide)).trans (hP0 2504 (by decide)))).symm))) ?_
      rintro _ _ ⟨c74, rfl, rfl, hC74, kf75, k76⟩
      have FK77 : fk p c n p26 c74 [901, 2103, 2104, 2504] := fk_tr FK56 kf75 (by decide)
      show tt Zi d 32 (143, [some (.inr (.inl 21)), some (.inr (.inl 25)), some (.inl a_), some (.inl y), some (.inl x46)], [], n, D, s47, p26, c74) _
      have hx78 : tpl A (s47 601) (c74 (p26 600)) := by rw [fk_k (k := 600) kf75 (by decide)]; exact hx72
      have hx79 : mrc X9.2.1 (c74 (p26 901)) := by rw [fk_k (k := 901) kf75 (by decide)]; exact hmr9
      have hrs9 : s47 2107 = (a_ * s 2501 + y) * s 2106 := by rw [hq1]; omega
      have hw9 : s47 2106 = s 2106 := by omega
      have hb9 : 0 ≤ a_ * s 2501 := Int.mul_nonneg (by omega) (by omega)
      have hsm10 := rSm_r hsm9 hhr9 hrs9 hw9 k76 (by omega)
      have hot10 := rOt_r hot9 hrs9 hw9 k76 (by omega)
      refine tt_k 2 (S' := (40, [some (.inr (.inl 21)), some (.inr (.inl 25)), some (.inl a_), some (.inl (y + 1)), some (.inl x46)], [], n, D, s47, p26, c74)) rfl ?_
      exact ih (y + 1) (some (.inl x46)) s47 p26 c74 (by omega) hS47 (fr_tr (fr_us (by decide) hF0) f50 (by decide)) hC74 hW51 (frp_tr hP0 g29 (by decide)) FK77 (show (y + 1) ≤ s 2501 by omega) (show ((0 ≤ (s47 2003) ∧ (s47 2003) ≤ 8) ∧ (0 ≤ (s47 2002) ∧ (s47 2002) ≤ 255)) ∧ (s47 2001) ≤ s 601 by omega) ⟨X9, plJ_r hI9 (by omega) (by omega) (by omega), hrd9, hx79, hpc9, (by rw [fk_k (k := 2104) kf75 (by decide)]; exact hr_e hhr9 (by omega) (by omega)), hsm10, hot10⟩ (show (s 2501 - (y + 1)).toNat < m by omega)
set_option maxRecDepth 100000 in
set_option maxHeartbeats 4000000 in
theorem u_tellPlane25 {g : Nat → Int} {Zi : Nat → Option (Nat × (Nat → Int))} {d n q : Nat} {D : Nat → Nat × Nat} {s : Nat → Int} {p : Nat → Nat} {c : Nat → Nat → Int} (hd : 8 ≤ d) (hz : zk Zi) (hq : q + 16 ≤ 400000) (hD : wd n p) (hS : bS s) (hC : bC D c) (hW : wp q g n D p s) (A : TN) (Z : Nat → Int) (a_ : Int) (b_a_ : 0 ≤ a_ ∧ a_ ≤ 2) (hp0 : tpl A (s 601) (c (p 600))) (hp1 : zq Z (s 800) (s 801) (s 802) (s 803) (s 804) (s 805) (s 806) (s 807) (s 808) (s 809)) (hp2 : mv Z) (hp3 : a_ < s 2502 ∧ 1 ≤ s 2500) (hp4 : ((0 ≤ s 2003 ∧ s 2003 ≤ 8) ∧ (0 ≤ s 2002 ∧ s 2002 ≤ 255)) ∧ s 2001 ≤ s 601) : tt Zi d 32 (0, [some (.inr (.inl 21)), some (.inr (.inl 25)), some (.inl a_), none, none], [], n, D, s, p, c) (fun R H => (∃ (s' : Nat → Int) (p' : Nat → Nat) (c' : Nat → Nat → Int), R = .inl none ∧ H = (n, D, s', p', c') ∧ bS s' ∧ bC D c' ∧ wp q g n D p' s' ∧ fr s s' [902, 2001, 2002, 2003, 2004, 2106, 2107, 2108, 2109, 2110, 2111, 2112, 2113, 2114, 2115, 2116] ∧ frp p p' [900, 901, 2103, 2104, 2105] ∧ fk p c n p' c' [900, 901, 2103, 2104, 2504] ∧ (∃ X, (plQ A Z (s 2500) (s 2501) 5000 0 0 ((s 2001, s 2002, s 2003), mB (Z 3024), 0, fun _ => 0)) = some X ∧ X.1 = (s' 2001, s' 2002, s' 2003) ∧ mrk X.2.1 (c' (p' 900)) ∧ rSm (a_ * s 2501) (s 2500) (s 2501) X.2.2.2 (c' (p' 2504)) ∧ rOt (a_ * s 2501) (s 2500) (s 2501) (c' (p' 2504)) (c (p 2504))) ∧ ((0 ≤ s' 2003 ∧ s' 2003 ≤ 8) ∧ (0 ≤ s' 2002 ∧ s' 2002 ≤ 255)) ∧ (s' 2001 ≤ s 601)) ∨ (R = .inr 12 ∧ cXp ((q + 1)) g s p c [901, 2103, 2104, 2504] [800, 801, 802, 803, 804, 805, 806, 807, 808, 809, 902, 1705, 1706, 2001, 2002, 2003, 2004, 2005, 2006, 2106, 2107, 2108, 2109, 2110, 2111, 2112, 2113, 2114, 2115, 2116] H ∧ ((plQ A Z (s 2500) (s 2501) 5000 0 0 ((s 2001, s 2002, s 2003), mB (Z 3024), 0, fun _ => 0)) = none))) := by
  have b1 : 0 ≤ (s 2500) ∧ (s 2500) ≤ 64 := hS 2500
  have b2 : 0 ≤ (s 2501) ∧ (s 2501) ≤ 64 := hS 2501
  have b3 : 0 ≤ (s 2502) ∧ (s 2502) ≤ 3 := hS 2502
  have b4 : 0 ≤ (s 2001) ∧ (s 2001) ≤ 100000 := hS 2001
  have b5 : 0 ≤ (s 2002) ∧ (s 2002) ≤ 255 := hS 2002
  have b6 : 0 ≤ (s 2003) ∧ (s 2003) ≤ 8 := hS 2003
  have mvx := mv_fx (s := Z) hp2
  have hzz := hp1
  obtain ⟨z0, z1, z2, z3, z4, z5, z6, z7, z8, z9⟩ := hzz
  refine tt_k 13 (S' := (27, [some (.inr (.inl 21)), some (.inr (.inl 25)), some (.inl a_), none, none], [.inl (s 807), .inr (.inl 9)], n, D, (us s 2106 (s 2500)), (up p 2105 (p 2504)), c)) rfl ?_
  have b7 : 0 ≤ (s 807) ∧ (s 807) ≤ 65536 := hS 807
  have FK8 : fk p c n (up p 2105 (p 2504)) c [901, 2103, 2104, 2504] := (fk_up (by decide) (fk_rf hD))
  refine tt_cl (by omega) rfl (e_begin (Zi := Zi) (q := q) (n := n) (D := D) (s := (us s 2106 (s 2500))) (p := (up p 2105 (p 2504))) (c := c) (by omega) hz (by omega) FK8.1 (bS_us hS (show 0 ≤ (s 2500) ∧ (s 2500) ≤ 64 by omega)) hC (wp_us (by decide) (wp_sa21_25 hW)) (s 807) (by omega)) ?_
  rintro _ _ ⟨s9, c10, rfl, rfl, hS9, hC10, hW11, f12, kf13, k14, k15⟩
  have FK16 : fk p c n (up p 2105 (p 2504)) c10 [901, 2103, 2104, 2504] := fk_tr FK8 kf13 (by decide)
  show tt Zi d 32 (30, [some (.inr (.inl 21)), some (.inr (.inl 25)), some (.inl a_), none, none], [], n, D, s9, (up p 2105 (p 2504)), c10) _
  replace k15 : (s9 902) = 0 := k15
  have b17 : 0 ≤ (s9 902) ∧ (s9 902) ≤ 31 := hS9 902
  have e18 : s9 2500 = (s 2500) := (f12 2500 (by decide))
  have b19 : 0 ≤ (s9 2500) ∧ (s9 2500) ≤ 64 := hS9 2500
  have e20 : s9 2501 = (s 2501) := (f12 2501 (by decide))
  have b21 : 0 ≤ (s9 2501) ∧ (s9 2501) ≤ 64 := hS9 2501
  have e22 : s9 2502 = (s 2502) := (f12 2502 (by decide))
  have b23 : 0 ≤ (s9 2502) ∧ (s9 2502) ≤ 3 := hS9 2502
  have e24 : s9 2106 = (s 2500) := (f12 2106 (by decide))
  have b25 : 0 ≤ (s9 2106) ∧ (s9 2106) ≤ 64 := hS9 2106
  have e26 : s9 2107 = (s 2107) := (f12 2107 (by decide))
  have b27 : 0 ≤ (s9 2107) ∧ (s9 2107) ≤ 12288 := hS9 2107
  have b28 : 0 ≤ (s 2107) ∧ (s 2107) ≤ 12288 := hS 2107
  have e29 : s9 2001 = (s 2001) := (f12 2001 (by decide))
  have b30 : 0 ≤ (s9 2001) ∧ (s9 2001) ≤ 100000 := hS9 2001
  have e31 : s9 2002 = (s 2002) := (f12 2002 (by decide))
  have b32 : 0 ≤ (s9 2002) ∧ (s9 2002) ≤ 255 := hS9 2002
  have e33 : s9 2003 = (s 2003) := (f12 2003 (by decide))
  have b34 : 0 ≤ (s9 2003) ∧ (s9 2003) ≤ 8 := hS9 2003
  have e35 : s9 601 = (s 601) := (f12 601 (by decide))
  have b36 : 0 ≤ (s9 601) ∧ (s9 601) ≤ 32768 := hS9 601
  have b37 : 0 ≤ (s 601) ∧ (s 601) ≤ 32768 := hS 601
  have hx38 : tpl A (s9 601) (c10 (p 600)) := by rw [f12 601 (by decide), (by have hk := fk_k (k := 600) kf13 (by decide); exact hk : c10 (p 600) = c (p 600))]; exact hp0
  have hx39 : zq Z (s9 800) (s9 801) (s9 802) (s9 803) (s9 804) (s9 805) (s9 806) (s9 807) (s9 808) (s9 809) := by rw [f12 800 (by decide), f12 801 (by decide), f12 802 (by decide), f12 803 (by decide), f12 804 (by decide), f12 805 (by decide), f12 806 (by decide), f12 807 (by decide), f12 808 (by decide), f12 809 (by decide)]; exact hp1
  have hb0 : mrc (mB (Z 3024)) (c10 (p 901)) := by have h := k14; rw [z7] at h; exact h
  have hp9z : s9 902 = 0 := k15
  refine tt_k 3 (S' := (35, [some (.inr (.inl 21)), some (.inr (.inl 25)), some (.inl a_), none, none], [.inl 0, .inr (.inl (p 2104))], n, D, s9, (up p 2105 (p 2504)), c10)) rfl ?_
  refine tt_cl (by omega) rfl (g_fill (A := (p 2104)) (m := 66) (s := s9) (p := (up p 2105 (p 2504))) ((sw_arr (hW11).a21 rfl rfl).2) (by omega) (by rw [(show bC_lo D (p 2104) = 0 ∧ bC_hi D (p 2104) = 65535 from ((sw_21 (hW11).a21).2)).1, (show bC_lo D (p 2104) = 0 ∧ bC_hi D (p 2104) = 65535 from ((sw_21 (hW11).a21).2)).2]; decide) hC10) ?_
  rintro _ _ ⟨c40, rfl, rfl, hC40, fc40, ec40, zc40⟩
  show tt Zi d 32 (38, [some (.inr (.inl 21)), some (.inr (.inl 25)), some (.inl a_), none, none], [], n, D, s9, (up p 2105 (p 2504)), c40) _
  have FK41 : fk p c n (up p 2105 (p 2504)) c40 [901, 2103, 2104, 2504] := fk_st (k := 2104) FK16 ec40 (by decide) rfl
  have hx42 : tpl A (s9 601) (c40 (p 600)) := by rw [ec40, uc_ne (show (p 600) ≠ (p 2104) from FK41.1.2 600 (by decide) 2104 (by decide) (by decide))]; exact hx38
  have hx43 : mrc (mB (Z 3024)) (c40 (p 901)) := by rw [ec40, uc_ne (show (p 901) ≠ (p 2104) from FK41.1.2 901 (by decide) 2104 (by decide) (by decide))]; exact hb0
  refine tt_k 2 (S' := (40, [some (.inr (.inl 21)), some (.inr (.inl 25)), some (.inl a_), some (.inl 0), none], [], n, D, s9, (up p 2105 (p 2504)), c40)) rfl ?_
  have e6 : s9 2106 = s 2500 := by omega
  have e1 : s9 2501 = s 2501 := by omega
  have e2001 : s9 2001 = s 2001 := by omega
  have e2002 : s9 2002 = s 2002 := by omega
  have e2003 : s9 2003 = s 2003 := by omega
  have hhE : hE (fun _ => 0) (s 2500) 0 (c40 (p 2104)) := hE_0 (by omega) (fun i hi => by rw [ec40, uc_eq]; exact zc40 i (by omega))
  have b44 : 0 ≤ (s9 800) ∧ (s9 800) ≤ 65535 := hS9 800
  have b45 : -2147483648 ≤ (s9 801) ∧ (s9 801) ≤ 2147483647 := hS9 801
  have b46 : -2147483648 ≤ (s9 802) ∧ (s9 802) ≤ 2147483647 := hS9 802
  have b47 : -2147483648 ≤ (s9 803) ∧ (s9 803) ≤ 2147483647 := hS9 803
  have b48 : -2147483648 ≤ (s9 804) ∧ (s9 804) ≤ 2147483647 := hS9 804
  have b49 : 0 ≤ (s9 805) ∧ (s9 805) ≤ 65535 := hS9 805
  have b50 : 1 ≤ (s9 806) ∧ (s9 806) ≤ 511 := hS9 806
  have b51 : 0 ≤ (s9 807) ∧ (s9 807) ≤ 65536 := hS9 807
  have b52 : 0 ≤ (s9 808) ∧ (s9 808) ≤ 30 := hS9 808
  have b53 : 0 ≤ (s9 809) ∧ (s9 809) ≤ 64 := hS9 809
  refine u_tellPlane25_L40 (Zi := Zi) (q := q) (n := n) (D := D) (s := s9) (p := (up p 2105 (p 2504))) (c := c40) hd hz (by omega) FK41.1 hS9 hC40 hW11 A Z (plQ A Z (s 2500) (s 2501) 5000 0 0 ((s 2001, s 2002, s 2003), mB (Z 3024), 0, fun _ => 0)) a_ (by omega) (show _ from (hW11).w25) (show (s9 2106) = (s9 2500) by omega) (show a_ < (s9 2502) ∧ 1 ≤ (s9 2500) by omega) rfl hx39 hp2 hx42 (fun H h hq9 => (Or.inr ⟨rfl, cXp_mono (cXp_tr FK41 (show fr s s9 [800, 801, 802, 803, 804, 805, 806, 807, 808, 809, 902, 1705, 1706, 2001, 2002, 2003, 2004, 2005, 2006, 2106, 2107, 2108, 2109, 2110, 2111, 2112, 2113, 2114, 2115, 2116] from (fr_tr (fr_us (by decide) fr_rf) f12 (by decide))) (((frp_up (by decide) frp_rf) : frp p (up p 2105 (p 2504)) [900, 901, 2103, 2104, 2105]) 8 (by decide)) h (by decide) (by decide)) (by omega), (show (plQ A Z (s 2500) (s 2501) 5000 0 0 ((s 2001, s 2002, s 2003), mB (Z 3024), 0, fun _ => 0)) = none from hq9)⟩)) ?_ _ 0 (none) s9 (up p 2105 (p 2504)) c40 (by omega) hS9 fr_rf hC40 hW11 frp_rf (fk_rf FK41.1) (show 0 ≤ (s9 2501) by omega) (show ((0 ≤ (s9 2003) ∧ (s9 2003) ≤ 8) ∧ (0 ≤ (s9 2002) ∧ (s9 2002) ≤ 255)) ∧ (s9 2001) ≤ (s9 601) by omega) (by rw [e6, e1, e2001, e2002, e2003]; exact ⟨_, plJ_0 hp2 (by omega) (by omega), rfl, hx43, hp9z, hhE, (fun yy xx h1 h2 => absurd h2 (by omega)), (fun i _ => rfl)⟩) (Nat.lt_succ_self _)
  intro x54 x55 s56 p57 c58 b59 hS56 f60 hC58 hW61 g62 kf63 i64 i65 i66 hx67
  show tt Zi d 32 (149, [some (.inr (.inl 21)), some (.inr (.inl 25)), some (.inl a_), some (.inl x54), x55], [], n, D, s56, p57, c58) _
  have FK68 : fk p c n p57 c58 [901, 2103, 2104, 2504] := fk_tr FK41 kf63 (by decide)
  replace i64 : x54 ≤ (s9 2501) := i64
  replace i65 : ((0 ≤ (s56 2003) ∧ (s56 2003) ≤ 8) ∧ (0 ≤ (s56 2002) ∧ (s56 2002) ≤ 255)) ∧ (s56 2001) ≤ (s9 601) := i65
  have b69 : 0 ≤ (s56 2003) ∧ (s56 2003) ≤ 8 := hS56 2003
  have b70 : 0 ≤ (s56 2002) ∧ (s56 2002) ≤ 255 := hS56 2002
  have b71 : 0 ≤ (s56 2001) ∧ (s56 2001) ≤ 100000 := hS56 2001
  replace hx67 : (s9 2501) ≤ x54 := hx67
  have e72 : s56 2500 = (s9 2500) := (f60 2500 (by decide))
  have b73 : 0 ≤ (s56 2500) ∧ (s56 2500) ≤ 64 := hS56 2500
  have e74 : s56 2501 = (s9 2501) := (f60 2501 (by decide))
  have b75 : 0 ≤ (s56 2501) ∧ (s56 2501) ≤ 64 := hS56 2501
  have e76 : s56 2502 = (s9 2502) := (f60 2502 (by decide))
  have b77 : 0 ≤ (s56 2502) ∧ (s56 2502) ≤ 3 := hS56 2502
  have e78 : s56 2106 = (s9 2106) := (f60 2106 (by decide))
  have b79 : 0 ≤ (s56 2106) ∧ (s56 2106) ≤ 64 := hS56 2106
  have e80 : s56 601 = (s9 601) := (f60 601 (by decide))
  have b81 : 0 ≤ (s56 601) ∧ (s56 601) ≤ 32768 := hS56 601
  have e82 : ln D (p57 2105) = ln D (p 2504) := (congrArg (ln D) (g62 2105 (by decide)))
  have hx83 : tpl A (s56 601) (c58 (p57 600)) := by rw [f60 601 (by decide), fk_k (k := 600) kf63 (by decide)]; exact hx42
  have hx84 : zq Z (s56 800) (s56 801) (s56 802) (s56 803) (s56 804) (s56 805) (s56 806) (s56 807) (s56 808) (s56 809) := by rw [f60 800 (by decide), f60 801 (by decide), f60 802 (by decide), f60 803 (by decide), f60 804 (by decide), f60 805 (by decide), f60 806 (by decide), f60 807 (by decide), f60 808 (by decide), f60 809 (by decide)]; exact hx39
  have hr0 := i66
  rw [e6, e1] at hr0
  obtain ⟨X, hI, hrd, hmr, hpc, hhe, hsm, hot⟩ := hr0
  have hyH : x54 = s 2501 := by omega
  have hXR := plJ_e hI (by omega) (by omega) (by omega)
  rw [hyH] at hsm hot
  have hb9 : c40 ((up p 2105 (p 2504)) 2504) = c (p 2504) := by show c40 (p 2504) = c (p 2504); rw [ec40, uc_ne (show p 2504 ≠ p 2104 from FK41.1.2 2504 (by decide) 2104 (by decide) (by decide))]; have hk := fk_k (k := 2504) kf13 (by decide); exact hk
  rw [hb9] at hot
  refine tt_k 2 (S' := (153, [some (.inr (.inl 21)), some (.inr (.inl 25)), some (.inl a_), some (.inl x54), x55], [.inr (.inl 9)], n, D, s56, p57, c58)) rfl ?_
  have FK85 : fk p c n p57 c58 [900, 901, 2103, 2104, 2504] := fk_w9 FK68 (by decide)
  refine tt_cl (by omega) rfl (e_keep (Zi := Zi) (q := q) (n := n) (D := D) (s := s56) (p := p57) (c := c58) (by omega) hz (by omega) FK85.1 hS56 hC58 hW61 X.2.1 hmr) ?_
  rintro _ _ ⟨p86, rfl, rfl, hW87, g88, kf89, k90⟩
  have FK91 : fk p c n p86 c58 [900, 901, 2103, 2104, 2504] := fk_tr FK85 kf89 (by decide)
  show tt Zi d 32 (156, [some (.inr (.inl 21)), some (.inr (.inl 25)), some (.inl a_), some (.inl x54), x55], [], n, D, s56, p86, c58) _
  have e92 : ln D (p86 2105) = ln D (p57 2105) := (congrArg (ln D) (g88 2105 (by decide)))
  have hx93 : tpl A (s56 601) (c58 (p86 600)) := by rw [fk_k (k := 600) kf89 (by decide)]; exact hx83
  exact tt_rtv rfl rfl (Or.inl ⟨s56, p86, c58, rfl, rfl, hS56, hC58, hW87, (fr_tr (fr_tr (fr_us (by decide) fr_rf) f12 (by decide)) f60 (by decide)), (frp_tr (frp_tr (frp_up (by decide) frp_rf) g62 (by decide)) g88 (by decide)), FK91, by show ∃ X, (plQ A Z (s 2500) (s 2501) 5000 0 0 ((s 2001, s 2002, s 2003), mB (Z 3024), 0, fun _ => 0)) = some X ∧ X.1 = ((s56 2001), (s56 2002), (s56 2003)) ∧ mrk X.2.1 (c58 (p86 900)) ∧ rSm (a_ * s 2501) (s 2500) (s 2501) X.2.2.2 (c58 (p86 2504)) ∧ rOt (a_ * s 2501) (s 2500) (s 2501) (c58 (p86 2504)) (c (p 2504)); exact ⟨X, hXR, hrd, k90, by rw [g88 2504 (by decide)]; exact hsm, by rw [g88 2504 (by decide)]; exact hot⟩, by show (0 ≤ (s56 2003) ∧ (s56 2003) ≤ 8) ∧ (0 ≤ (s56 2002) ∧ (s56 2002) ≤ 255); omega, by show (s56 2001) ≤ s 601; omega⟩)
