/-! a row of the class's plane, exactly -/
set_option maxRecDepth 100000 in
set_option maxHeartbeats 4000000 in
theorem e_tellPlane_L66 {g : Nat → Int} {Zi : Nat → Option (Nat × (Nat → Int))} {d n q : Nat} {D : Nat → Nat × Nat} {s : Nat → Int} {p : Nat → Nat} {c : Nat → Nat → Int}  {Q : mi_Rs → mi_H → Prop} (hd : 5 ≤ d) (hz : zk Zi) (hq : q + 10 ≤ 400001) (hD : wd n p) (hS : bS s) (hC : bC D c) (hW : wp q g n D p s) (Z : Nat → Int) (h_ : Int) (S : Int → Int → Int) (R : XT) (U : Int) (U2 : Int) (a_ : Int) (y : Int) (b_a_ : 0 ≤ a_ ∧ a_ ≤ 2) (b_y : 0 ≤ y ∧ y ≤ 63) (hq0 : s 1207 + s 1206 ≤ (ln D (p 1205) : Int) ∧ 1 ≤ s 1206) (hq1 : zq Z (s 800) (s 801) (s 802) (s 803) (s 804) (s 805) (s 806) (s 807) (s 808) (s 809)) (hq2 : mv Z) (hq3 : smc (S y) (s 1207) (s 1206) (c (p 104))) (hq4 : p 1205 = p 104) (hq5 : ∀ yy : Int, 0 ≤ yy → yy < h_ → ∀ xx : Int, 0 ≤ xx → xx < s 1206 → 0 ≤ S yy xx ∧ S yy xx ≤ Z 3017) (hq6 : U2 + 457600 ≤ 1834000 ∧ y < h_ ∧ h_ ≤ 64)
  (hK : ∀ (x : Int) (n0 : Nat) (D0 : Nat → Nat × Nat) (s0 : Nat → Int) (p0 : Nat → Nat) (c0 : Nat → Nat → Int) (b_x : 0 ≤ x ∧ x ≤ 65) (hS0 : bS s0) (hF0 : fr s s0 [401, 902, 1208, 1209, 1210, 1211, 1212, 1213, 1214, 1215, 1216, 1601, 1602]) (hC0 : bC D0 c0) (hW0 : wp q g n0 D0 p0 s0) (hP0 : frp p p0 [400]) (hE0 : ext n D n0 D0) (hK0 : fk p c n0 p0 c0 [400, 901, 1204]) (hc_wo : wo s0) (i0 : 7 * s0 401 - s0 1602 ≤ U2 + 110 * x + 7150 * y) (i1 : plC Z h_ S R U y x (s 1206) (s0 902) (s0 401) (s0 1601) (s0 1602) (c0 (p0 400)) (c0 (p0 901)) (c0 (p0 1204)) (c0 (p0 1203))), (s 1206 ≤ x) → tt Zi d 32 (139, [some (.inr (.inl 12)), some (.inr (.inl 1)), some (.inl a_), some (.inl y), some (.inl x)], [], n0, D0, s0, p0, c0) Q) :
  ∀ (m : Nat) (x : Int) (n0 : Nat) (D0 : Nat → Nat × Nat) (s0 : Nat → Int) (p0 : Nat → Nat) (c0 : Nat → Nat → Int) (b_x : 0 ≤ x ∧ x ≤ 65) (hS0 : bS s0) (hF0 : fr s s0 [401, 902, 1208, 1209, 1210, 1211, 1212, 1213, 1214, 1215, 1216, 1601, 1602]) (hC0 : bC D0 c0) (hW0 : wp q g n0 D0 p0 s0) (hP0 : frp p p0 [400]) (hE0 : ext n D n0 D0) (hK0 : fk p c n0 p0 c0 [400, 901, 1204]) (hc_wo : wo s0) (i0 : 7 * s0 401 - s0 1602 ≤ U2 + 110 * x + 7150 * y) (i1 : plC Z h_ S R U y x (s 1206) (s0 902) (s0 401) (s0 1601) (s0 1602) (c0 (p0 400)) (c0 (p0 901)) (c0 (p0 1204)) (c0 (p0 1203))), (65 - x).toNat < m → tt Zi d 32 (66, [some (.inr (.inl 12)), some (.inr (.inl 1)), some (.inl a_), some (.inl y), some (.inl x)], [], n0, D0, s0, p0, c0) Q := by
  intro m
  induction m with
  | zero => intro x n0 D0 s0 p0 c0 b_x hS0 hF0 hC0 hW0 hP0 hE0 hK0 hc_wo i0 i1 hm; exact absurd hm (by omega)
  | succ m ih =>
    intro x n0 D0 s0 p0 c0 b_x hS0 hF0 hC0 hW0 hP0 hE0 hK0 hc_wo i0 i1 hm
    have e1 : s0 100 = s 100 := hF0 100 (by decide)
    have b2 : 1 ≤ (s0 100) ∧ (s0 100) ≤ 64 := hS0 100
    have b3 : 1 ≤ (s 100) ∧ (s 100) ≤ 64 := hS 100
    have e4 : s0 101 = s 101 := hF0 101 (by decide)
    have b5 : 1 ≤ (s0 101) ∧ (s0 101) ≤ 64 := hS0 101
    have b6 : 1 ≤ (s 101) ∧ (s 101) ≤ 64 := hS 101
    have e7 : s0 102 = s 102 := hF0 102 (by decide)
    have b8 : 1 ≤ (s0 102) ∧ (s0 102) ≤ 3 := hS0 102
    have b9 : 1 ≤ (s 102) ∧ (s 102) ≤ 3 := hS 102
    have e10 : s0 1206 = s 1206 := hF0 1206 (by decide)
    have b11 : 0 ≤ (s0 1206) ∧ (s0 1206) ≤ 64 := hS0 1206
    have b12 : 0 ≤ (s 1206) ∧ (s 1206) ≤ 64 := hS 1206
    have e13 : s0 1207 = s 1207 := hF0 1207 (by decide)
    have b14 : 0 ≤ (s0 1207) ∧ (s0 1207) ≤ 12288 := hS0 1207
    have b15 : 0 ≤ (s 1207) ∧ (s 1207) ≤ 12288 := hS 1207
    have e16 : s0 801 = s 801 := hF0 801 (by decide)
    have b17 : -2147483648 ≤ (s0 801) ∧ (s0 801) ≤ 2147483647 := hS0 801
    have b18 : -2147483648 ≤ (s 801) ∧ (s 801) ≤ 2147483647 := hS 801
    have b19 : ln D0 (p0 1205) ≤ 12288 := (hW0).s12.2.2
    have el : ln D0 (p0 1205) = ln D (p 1205) := by rw [hP0 1205 (by decide)]; exact ext_ln hE0 (arr_lt hW.s12.1)
    obtain ⟨X, hI, hwr, hmr, hpc, hhr⟩ := i1
    have hz0 : zq Z (s0 800) (s0 801) (s0 802) (s0 803) (s0 804) (s0 805) (s0 806) (s0 807) (s0 808) (s0 809) := by rw [hF0 800 (by decide), hF0 801 (by decide), hF0 802 (by decide), hF0 803 (by decide), hF0 804 (by decide), hF0 805 (by decide), hF0 806 (by decide), hF0 807 (by decide), hF0 808 (by decide), hF0 809 (by decide)]; exact hq1
    have mvx := mv_fx (s := Z) hq2
    have hS := hq5 y (by omega) (by omega)
    have hsm : smc (S y) (s 1207) (s 1206) (c0 (p0 1205)) := by rw [hP0 1205 (by decide), hq4, ← hP0 104 (by decide), fk_k (k := 104) hK0 (by decide)]; exact hq3
    refine tt_k 3 (S' := (72, [some (.inr (.inl 12)), some (.inr (.inl 1)), some (.inl a_), some (.inl y), some (.inl x)], [.inl (s0 1206), .inl x], n0, D0, s0, p0, c0)) rfl ?_
    refine tb_ge (x := x) (y := (s0 1206)) rfl rfl (by omega) (fun h20 => ?_) (fun h20 => ?_)
    · show tt Zi d 32 (139, [some (.inr (.inl 12)), some (.inr (.inl 1)), some (.inl a_), some (.inl y), some (.inl x)], [], n0, D0, s0, p0, c0) _
      exact hK x n0 D0 s0 p0 c0 (by omega) hS0 hF0 hC0 hW0 hP0 hE0 hK0 hc_wo (show 7 * (s0 401) - (s0 1602) ≤ U2 + 110 * x + 7150 * y by omega) ⟨X, hI, hwr, hmr, hpc, hhr⟩ (by omega)
    · show tt Zi d 32 (75, [some (.inr (.inl 12)), some (.inr (.inl 1)), some (.inl a_), some (.inl y), some (.inl x)], [], n0, D0, s0, p0, c0) _
      have hmin : min x (s 1206) = x := by omega
      rw [hmin] at hI hhr
      have hvX := hI.1
      have hpb := hvX.2.2.1
      refine tt_k 2 (S' := (78, [some (.inr (.inl 12)), some (.inr (.inl 1)), some (.inl a_), some (.inl y), some (.inl x)], [.inl x, .inr (.inl 12)], n0, D0, s0, p0, c0)) rfl ?_
      have b21 : 0 ≤ (s0 800) ∧ (s0 800) ≤ 65535 := hS0 800
      have b22 : -2147483648 ≤ (s0 802) ∧ (s0 802) ≤ 2147483647 := hS0 802
      have b23 : -2147483648 ≤ (s0 803) ∧ (s0 803) ≤ 2147483647 := hS0 803
      have b24 : -2147483648 ≤ (s0 804) ∧ (s0 804) ≤ 2147483647 := hS0 804
      have b25 : 0 ≤ (s0 805) ∧ (s0 805) ≤ 65535 := hS0 805
      have b26 : 1 ≤ (s0 806) ∧ (s0 806) ≤ 511 := hS0 806
      have b27 : 0 ≤ (s0 807) ∧ (s0 807) ≤ 65536 := hS0 807
      have b28 : 0 ≤ (s0 808) ∧ (s0 808) ≤ 30 := hS0 808
      have b29 : 0 ≤ (s0 809) ∧ (s0 809) ≤ 64 := hS0 809
      refine tt_cl (by omega) rfl (e_look (Zi := Zi) (q := q) (n := n0) (D := D0) (s := s0) (p := p0) (c := c0) (by omega) hz (by omega) hK0.1 hS0 hC0 hW0 Z (X.2.2.2, s 1206, x, y) x (by omega) hhr hz0 ⟨rfl, by show x < s 1206; omega, by show s 1206 ≤ 64; omega, by show 0 ≤ y; omega⟩) ?_
      rintro _ _ ⟨s30, rfl, rfl, hS30, hW31, f32, k33, k34, k35, k36, k37⟩
      have hc38 : wo s30 := wo_fr f32 (by decide) hc_wo
      show tt Zi d 32 (81, [some (.inr (.inl 12)), some (.inr (.inl 1)), some (.inl a_), some (.inl y), some (.inl x)], [], n0, D0, s30, p0, c0) _
      replace k33 : (s30 1208) = nA (X.2.2.2, s 1206, x, y).1 x (X.2.2.2, s 1206, x, y).2.2.2 := k33
      replace k34 : (s30 1209) = nB (X.2.2.2, s 1206, x, y).1 x (X.2.2.2, s 1206, x, y).2.2.2 := k34
      replace k35 : (s30 1210) = nC (X.2.2.2, s 1206, x, y).1 x (X.2.2.2, s 1206, x, y).2.2.2 := k35
      replace k36 : (s30 1215) = (if gsm Z (nA (X.2.2.2, s 1206, x, y).1 x (X.2.2.2, s 1206, x, y).2.2.2) (nB (X.2.2.2, s 1206, x, y).1 x (X.2.2.2, s 1206, x, y).2.2.2) (nC (X.2.2.2, s 1206, x, y).1 x (X.2.2.2, s 1206, x, y).2.2.2) (nD (X.2.2.2, s 1206, x, y).1 (X.2.2.2, s 1206, x, y).2.1 x (X.2.2.2, s 1206, x, y).2.2.2) < 0 then 1 else 0) := k36
      replace k37 : (s30 1211) = fA (gsm Z (nA (X.2.2.2, s 1206, x, y).1 x (X.2.2.2, s 1206, x, y).2.2.2) (nB (X.2.2.2, s 1206, x, y).1 x (X.2.2.2, s 1206, x, y).2.2.2) (nC (X.2.2.2, s 1206, x, y).1 x (X.2.2.2, s 1206, x, y).2.2.2) (nD (X.2.2.2, s 1206, x, y).1 (X.2.2.2, s 1206, x, y).2.1 x (X.2.2.2, s 1206, x, y).2.2.2)) := k37
      have b39 : 0 ≤ (s30 1208) ∧ (s30 1208) ≤ 65535 := hS30 1208
      have b40 : 0 ≤ (s30 1209) ∧ (s30 1209) ≤ 65535 := hS30 1209
      have b41 : 0 ≤ (s30 1210) ∧ (s30 1210) ≤ 65535 := hS30 1210
      have b42 : 0 ≤ (s30 1215) ∧ (s30 1215) ≤ 1 := hS30 1215
      have b43 : 0 ≤ (s30 1211) ∧ (s30 1211) ≤ 366 := hS30 1211
      have e44 : s30 100 = (s0 100) := (f32 100 (by decide))
      have b45 : 1 ≤ (s30 100) ∧ (s30 100) ≤ 64 := hS30 100
      have e46 : s30 101 = (s0 101) := (f32 101 (by decide))
      have b47 : 1 ≤ (s30 101) ∧ (s30 101) ≤ 64 := hS30 101
      have e48 : s30 102 = (s0 102) := (f32 102 (by decide))
      have b49 : 1 ≤ (s30 102) ∧ (s30 102) ≤ 3 := hS30 102
      have e50 : s30 1206 = (s0 1206) := (f32 1206 (by decide))
      have b51 : 0 ≤ (s30 1206) ∧ (s30 1206) ≤ 64 := hS30 1206
      have e52 : s30 1207 = (s0 1207) := (f32 1207 (by decide))
      have b53 : 0 ≤ (s30 1207) ∧ (s30 1207) ≤ 12288 := hS30 1207
      have e54 : s30 801 = (s0 801) := (f32 801 (by decide))
      have b55 : -2147483648 ≤ (s30 801) ∧ (s30 801) ≤ 2147483647 := hS30 801
      have e56 : s30 401 = (s0 401) := (f32 401 (by decide))
      have b57 : 0 ≤ (s30 401) ∧ (s30 401) ≤ 262144 := hS30 401
      have b58 : 0 ≤ (s0 401) ∧ (s0 401) ≤ 262144 := hS0 401
      have e59 : s30 1602 = (s0 1602) := (f32 1602 (by decide))
      have b60 : 1 ≤ (s30 1602) ∧ (s30 1602) ≤ 8 := hS30 1602
      have b61 : 1 ≤ (s0 1602) ∧ (s0 1602) ≤ 8 := hS0 1602
      have e62 : s30 902 = (s0 902) := (f32 902 (by decide))
      have b63 : 0 ≤ (s30 902) ∧ (s30 902) ≤ 31 := hS30 902
      have b64 : 0 ≤ (s0 902) ∧ (s0 902) ≤ 31 := hS0 902
      have hx65 : wrl X.1 (s30 401) (s30 1601) (s30 1602) (c0 (p0 400)) := by rw [f32 401 (by decide), f32 1601 (by decide), f32 1602 (by decide)]; exact hwr
      have hx66 : zq Z (s30 800) (s30 801) (s30 802) (s30 803) (s30 804) (s30 805) (s30 806) (s30 807) (s30 808) (s30 809) := by rw [f32 800 (by decide), f32 801 (by decide), f32 802 (by decide), f32 803 (by decide), f32 804 (by decide), f32 805 (by decide), f32 806 (by decide), f32 807 (by decide), f32 808 (by decide), f32 809 (by decide)]; exact hz0
      have la : s30 1208 = (nA X.2.2.2 x y) := k33
      have lb : s30 1209 = (nB X.2.2.2 x y) := k34
      have lc : s30 1210 = (nC X.2.2.2 x y) := k35
      have lt : s30 1215 = (if (gsX Z (s 1206) y x X) < 0 then 1 else 0) := k36
      have lp : s30 1211 = fA (gsX Z (s 1206) y x X) := k37
      clear k33 k34 k35 k36 k37
      have hgf : fA (gsX Z (s 1206) y x X) = 0 ↔ (gsX Z (s 1206) y x X) = 0 := by unfold fA; split <;> omega
      have hgp := gsX_bd (Z := Z) (w := s 1206) (y := y) (x := x) (X := X)
      refine tt_k 2 (S' := (85, [some (.inr (.inl 12)), some (.inr (.inl 1)), some (.inl a_), some (.inl y), some (.inl x)], [.inl (s30 1211)], n0, D0, s30, p0, c0)) rfl ?_
      refine tz_eq (x := (s30 1211)) rfl rfl (by omega) (fun h67 => ?_) (fun h67 => ?_)
      · show tt Zi d 32 (101, [some (.inr (.inl 12)), some (.inr (.inl 1)), some (.inl a_), some (.inl y), some (.inl x)], [], n0, D0, s30, p0, c0) _
        refine tt_k 3 (S' := (106, [some (.inr (.inl 12)), some (.inr (.inl 1)), some (.inl a_), some (.inl y), some (.inl x)], [.inl x, .inr (.inl 12), .inl x], n0, D0, s30, p0, c0)) rfl ?_
        have hs7 : s30 1207 = s 1207 := by omega
        have hs6 : s30 1206 = s 1206 := by omega
        have b68 : 0 ≤ (s30 800) ∧ (s30 800) ≤ 65535 := hS30 800
        have b69 : -2147483648 ≤ (s30 802) ∧ (s30 802) ≤ 2147483647 := hS30 802
        have b70 : -2147483648 ≤ (s30 803) ∧ (s30 803) ≤ 2147483647 := hS30 803
        have b71 : -2147483648 ≤ (s30 804) ∧ (s30 804) ≤ 2147483647 := hS30 804
        have b72 : 0 ≤ (s30 805) ∧ (s30 805) ≤ 65535 := hS30 805
        have b73 : 1 ≤ (s30 806) ∧ (s30 806) ≤ 511 := hS30 806
        have b74 : 0 ≤ (s30 807) ∧ (s30 807) ≤ 65536 := hS30 807
        have b75 : 0 ≤ (s30 808) ∧ (s30 808) ≤ 30 := hS30 808
        have b76 : 0 ≤ (s30 809) ∧ (s30 809) ≤ 64 := hS30 809
        have b77 : 0 ≤ (s30 1601) ∧ (s30 1601) ≤ 255 := hS30 1601
        refine tt_cl (by omega) rfl (e_tellRun (Zi := Zi) (q := q) (n := n0) (D := D0) (s := s30) (p := p0) (c := c0) (by omega) hz (by omega) hK0.1 hS30 hC0 hW31 Z X.1 (S y) x (by omega) hc38 (show 7 * (s30 401) - (s30 1602) + 300 ≤ 1834990 by omega) (show (s30 1207) + (s30 1206) ≤ (ln D0 (p0 1205) : Int) by omega) (show x < (s30 1206) by omega) hx66 hx65 (by rw [hs7, hs6]; exact hsm) (show 0 ≤ (s30 902) ∧ (s30 902) ≤ 22 by omega)) ?_
        rintro _ _ ⟨n78, D79, s80, p81, c82, r83, rfl, rfl, hS80, hC82, hW84, f85, g86, xe87, kf88, b89, k90, k91, k92, k93, k94, k95, k96, k97⟩
        have FK98 : fk p c n78 p81 c82 [400, 901, 1204] := fk_tr hK0 kf88 (by decide)
        show tt Zi d 32 (109, [some (.inr (.inl 12)), some (.inr (.inl 1)), some (.inl a_), some (.inl y), some (.inl x)], [.inl r83, .inl x], n78, D79, s80, p81, c82) _
        replace k91 : x + r83 ≤ (s30 1206) := k91
        replace k92 : 7 * (s80 401) - (s80 1602) ≤ 7 * (s30 401) - (s30 1602) + r83 + 16 := k92
        replace k93 : r83 = rN (S y) ((s30 1208)) (Z 3018) ((s30 1206)) 65 x 0 := k93
        replace k94 : (s80 902) = (rP 65 r83 ((s30 902)) X.1).2.1 := k94
        replace k95 : 0 ≤ (s80 902) ∧ (s80 902) ≤ 22 := k95
        have b99 : 0 ≤ (s80 401) ∧ (s80 401) ≤ 262144 := hS80 401
        have b100 : 1 ≤ (s80 1602) ∧ (s80 1602) ≤ 8 := hS80 1602
        have b101 : 0 ≤ (s80 902) ∧ (s80 902) ≤ 31 := hS80 902
        have b102 : 0 ≤ (s80 1601) ∧ (s80 1601) ≤ 255 := hS80 1601
        have e103 : s80 100 = (s30 100) := (f85 100 (by decide))
        have b104 : 1 ≤ (s80 100) ∧ (s80 100) ≤ 64 := hS80 100
        have e105 : s80 101 = (s30 101) := (f85 101 (by decide))
        have b106 : 1 ≤ (s80 101) ∧ (s80 101) ≤ 64 := hS80 101
        have e107 : s80 102 = (s30 102) := (f85 102 (by decide))
        have b108 : 1 ≤ (s80 102) ∧ (s80 102) ≤ 3 := hS80 102
        have e109 : s80 1206 = (s30 1206) := (f85 1206 (by decide))
        have b110 : 0 ≤ (s80 1206) ∧ (s80 1206) ≤ 64 := hS80 1206
        have e111 : s80 1207 = (s30 1207) := (f85 1207 (by decide))
        have b112 : 0 ≤ (s80 1207) ∧ (s80 1207) ≤ 12288 := hS80 1207
        have e113 : s80 801 = (s30 801) := (f85 801 (by decide))
        have b114 : -2147483648 ≤ (s80 801) ∧ (s80 801) ≤ 2147483647 := hS80 801
        have e115 : ln D79 (p81 1205) = ln D0 (p0 1205) := (congrArg (ln D79) (g86 1205 (by decide))).trans (ext_ln xe87 (arr_lt (hW31).s12.1))
        have hx116 : mrc X.2.1 (c82 (p81 901)) := by rw [fk_k (k := 901) kf88 (by decide)]; exact hmr
        have hx117 : zq Z (s80 800) (s80 801) (s80 802) (s80 803) (s80 804) (s80 805) (s80 806) (s80 807) (s80 808) (s80 809) := by rw [f85 800 (by decide), f85 801 (by decide), f85 802 (by decide), f85 803 (by decide), f85 804 (by decide), f85 805 (by decide), f85 806 (by decide), f85 807 (by decide), f85 808 (by decide), f85 809 (by decide)]; exact hx66
        have hgz : (gsX Z (s 1206) y x X) = 0 := by omega
        have h902 : (s30 902) = X.2.2.1 := by omega
        have rn : r83 = (rnX Z (s 1206) (S y) y x X) := by rw [k93, la, hs6]; rfl
        clear k93
        subst rn
        show tt Zi d 32 (109, [some (.inr (.inl 12)), some (.inr (.inl 1)), some (.inl a_), some (.inl y), some (.inl x)], [.inl (rnX Z (s 1206) (S y) y x X), .inl x], n78, D79, s80, p81, c82) _
        have tw := k96
        rw [h902, hs6] at tw
        have tp := k94
        rw [h902] at tp
        have hh8 : hrl (fil X.2.2.2 (64 * y + x).toNat (rnX Z (s 1206) (S y) y x X) (nA X.2.2.2 x y), s 1206, x + (rnX Z (s 1206) (S y) y x X), y) (c82 (p81 1204)) (c82 (p81 1203)) := by have hk := k97; unfold rwh at hk; rw [hk, la, fk_k (k := 1203) kf88 (by decide)]; exact hr_fl hhr (by omega) (by omega) (by omega) (by omega)
        have la8 : s80 1208 = (nA X.2.2.2 x y) := (f85 1208 (by decide)).trans la
        have hj8 := jj_bd k95
        refine tt_k 5 (S' := (118, [some (.inr (.inl 12)), some (.inr (.inl 1)), some (.inl a_), some (.inl y), some (.inl ((x + (rnX Z (s 1206) (S y) y x X))))], [.inl (s80 1206), .inl ((x + (rnX Z (s 1206) (S y) y x X)))], n78, D79, s80, p81, c82)) rfl ?_
        refine tb_ge (x := (x + (rnX Z (s 1206) (S y) y x X))) (y := (s80 1206)) rfl rfl (by omega) (fun h118 => ?_) (fun h118 => ?_)
        · show tt Zi d 32 (133, [some (.inr (.inl 12)), some (.inr (.inl 1)), some (.inl a_), some (.inl y), some (.inl ((x + (rnX Z (s 1206) (S y) y x X))))], [], n78, D79, s80, p81, c82) _
          refine tt_k 2 (S' := (66, [some (.inr (.inl 12)), some (.inr (.inl 1)), some (.inl a_), some (.inl y), some (.inl (((x + (rnX Z (s 1206) (S y) y x X)) + 1)))], [], n78, D79, s80, p81, c82)) rfl ?_
          have hI2 := (plI_s hq2 hI (by omega) (by omega) (by omega) (by omega) hS).1
          have hst : stX Z (s 1206) (S y) y x X = (rX Z (s 1206) (S y) y x X) := by unfold stX; rw [if_pos hgz, if_neg (by omega)]
          have hn1 : stN Z (s 1206) (S y) y x X = (rnX Z (s 1206) (S y) y x X) := by unfold stN; rw [if_pos hgz, if_neg (by omega)]
          rw [hn1, hst] at hI2
          have hmin2 : min (x + (rnX Z (s 1206) (S y) y x X) + 1) (s 1206) = x + (rnX Z (s 1206) (S y) y x X) := by omega
          exact ih (((x + (rnX Z (s 1206) (S y) y x X)) + 1)) n78 D79 s80 p81 c82 (by omega) hS80 (fr_tr (fr_tr hF0 f32 (by decide)) f85 (by decide)) hC82 hW84 (frp_tr hP0 g86 (by decide)) (ext_tr hE0 xe87) FK98 k90 (show 7 * (s80 401) - (s80 1602) ≤ U2 + 110 * (((x + (rnX Z (s 1206) (S y) y x X)) + 1)) + 7150 * y by omega) ⟨(rX Z (s 1206) (S y) y x X), (by rw [hmin2]; exact hI2), tw, hx116, tp, (by rw [hmin2]; exact hh8)⟩ (show (65 - (((x + (rnX Z (s 1206) (S y) y x X)) + 1))).toNat < m by omega)
        · show tt Zi d 32 (121, [some (.inr (.inl 12)), some (.inr (.inl 1)), some (.inl a_), some (.inl y), some (.inl ((x + (rnX Z (s 1206) (S y) y x X))))], [], n78, D79, s80, p81, c82) _
          refine tt_k 2 (S' := (124, [some (.inr (.inl 12)), some (.inr (.inl 1)), some (.inl a_), some (.inl y), some (.inl ((x + (rnX Z (s 1206) (S y) y x X))))], [.inl ((x + (rnX Z (s 1206) (S y) y x X))), .inr (.inl 12)], n78, D79, s80, p81, c82)) rfl ?_
          have b119 : 0 ≤ (s80 800) ∧ (s80 800) ≤ 65535 := hS80 800
          have b120 : -2147483648 ≤ (s80 802) ∧ (s80 802) ≤ 2147483647 := hS80 802
          have b121 : -2147483648 ≤ (s80 803) ∧ (s80 803) ≤ 2147483647 := hS80 803
          have b122 : -2147483648 ≤ (s80 804) ∧ (s80 804) ≤ 2147483647 := hS80 804
          have b123 : 0 ≤ (s80 805) ∧ (s80 805) ≤ 65535 := hS80 805
          have b124 : 1 ≤ (s80 806) ∧ (s80 806) ≤ 511 := hS80 806
          have b125 : 0 ≤ (s80 807) ∧ (s80 807) ≤ 65536 := hS80 807
          have b126 : 0 ≤ (s80 808) ∧ (s80 808) ≤ 30 := hS80 808
          have b127 : 0 ≤ (s80 809) ∧ (s80 809) ≤ 64 := hS80 809
          refine tt_cl (by omega) rfl (e_aimStop (Zi := Zi) (q := q) (n := n78) (D := D79) (s := s80) (p := p81) (c := c82) (by omega) hz (by omega) FK98.1 hS80 hC82 hW84 (64 * y + x) Z X.2.1 (fil X.2.2.2 (64 * y + x).toNat (rnX Z (s 1206) (S y) y x X) (nA X.2.2.2 x y), s 1206, x + (rnX Z (s 1206) (S y) y x X), y) ((x + (rnX Z (s 1206) (S y) y x X))) (by omega) hh8 hx116 hx117 hq2 hvX.1 (show 0 ≤ (64 * y + x) ∧ (64 * y + x) ≤ 4095 by omega) ⟨rfl, by show x + (rnX Z (s 1206) (S y) y x X) < s 1206; omega, by show s 1206 ≤ 64; omega, by show 0 ≤ y; omega⟩) ?_
          rintro _ _ ⟨s128, rfl, rfl, hS128, hW129, f130, k131, k132, k133, k134, k135, k136⟩
          have hc137 : wo s128 := wo_fr f130 (by decide) k90
          show tt Zi d 32 (127, [some (.inr (.inl 12)), some (.inr (.inl 1)), some (.inl a_), some (.inl y), some (.inl ((x + (rnX Z (s 1206) (S y) y x X))))], [], n78, D79, s128, p81, c82) _
          replace k131 : (s128 1212) = sS Z ((s80 1208)) (nB (fil X.2.2.2 (64 * y + x).toNat (rnX Z (s 1206) (S y) y x X) (nA X.2.2.2 x y), s 1206, x + (rnX Z (s 1206) (S y) y x X), y).1 ((x + (rnX Z (s 1206) (S y) y x X))) (fil X.2.2.2 (64 * y + x).toNat (rnX Z (s 1206) (S y) y x X) (nA X.2.2.2 x y), s 1206, x + (rnX Z (s 1206) (S y) y x X), y).2.2.2) := k131
          replace k132 : (s128 1211) = 365 + sS Z ((s80 1208)) (nB (fil X.2.2.2 (64 * y + x).toNat (rnX Z (s 1206) (S y) y x X) (nA X.2.2.2 x y), s 1206, x + (rnX Z (s 1206) (S y) y x X), y).1 ((x + (rnX Z (s 1206) (S y) y x X))) (fil X.2.2.2 (64 * y + x).toNat (rnX Z (s 1206) (S y) y x X) (nA X.2.2.2 x y), s 1206, x + (rnX Z (s 1206) (S y) y x X), y).2.2.2) := k132
          replace k133 : (s128 1214) = gS Z ((s80 1208)) (nB (fil X.2.2.2 (64 * y + x).toNat (rnX Z (s 1206) (S y) y x X) (nA X.2.2.2 x y), s 1206, x + (rnX Z (s 1206) (S y) y x X), y).1 ((x + (rnX Z (s 1206) (S y) y x X))) (fil X.2.2.2 (64 * y + x).toNat (rnX Z (s 1206) (S y) y x X) (nA X.2.2.2 x y), s 1206, x + (rnX Z (s 1206) (S y) y x X), y).2.2.2) := k133
          replace k134 : (s128 1215) = tS Z ((s80 1208)) (nB (fil X.2.2.2 (64 * y + x).toNat (rnX Z (s 1206) (S y) y x X) (nA X.2.2.2 x y), s 1206, x + (rnX Z (s 1206) (S y) y x X), y).1 ((x + (rnX Z (s 1206) (S y) y x X))) (fil X.2.2.2 (64 * y + x).toNat (rnX Z (s 1206) (S y) y x X) (nA X.2.2.2 x y), s 1206, x + (rnX Z (s 1206) (S y) y x X), y).2.2.2) := k134
          replace k135 : (s128 1213) = kS X.2.1 (sS Z ((s80 1208)) (nB (fil X.2.2.2 (64 * y + x).toNat (rnX Z (s 1206) (S y) y x X) (nA X.2.2.2 x y), s 1206, x + (rnX Z (s 1206) (S y) y x X), y).1 ((x + (rnX Z (s 1206) (S y) y x X))) (fil X.2.2.2 (64 * y + x).toNat (rnX Z (s 1206) (S y) y x X) (nA X.2.2.2 x y), s 1206, x + (rnX Z (s 1206) (S y) y x X), y).2.2.2)) := k135
          replace k136 : (s128 1216) = oS X.2.1 (sS Z ((s80 1208)) (nB (fil X.2.2.2 (64 * y + x).toNat (rnX Z (s 1206) (S y) y x X) (nA X.2.2.2 x y), s 1206, x + (rnX Z (s 1206) (S y) y x X), y).1 ((x + (rnX Z (s 1206) (S y) y x X))) (fil X.2.2.2 (64 * y + x).toNat (rnX Z (s 1206) (S y) y x X) (nA X.2.2.2 x y), s 1206, x + (rnX Z (s 1206) (S y) y x X), y).2.2.2)) := k136
          have b138 : 0 ≤ (s80 1208) ∧ (s80 1208) ≤ 65535 := hS80 1208
          have b139 : 0 ≤ (s128 1212) ∧ (s128 1212) ≤ 1 := hS128 1212
          have b140 : 0 ≤ (s128 1211) ∧ (s128 1211) ≤ 366 := hS128 1211
          have b141 : 0 ≤ (s128 1214) ∧ (s128 1214) ≤ 65535 := hS128 1214
          have b142 : 0 ≤ (s128 1215) ∧ (s128 1215) ≤ 1 := hS128 1215
          have b143 : 0 ≤ (s128 1213) ∧ (s128 1213) ≤ 30 := hS128 1213
          have b144 : 0 ≤ (s128 1216) ∧ (s128 1216) ≤ 1 := hS128 1216
          have e145 : s128 100 = (s80 100) := (f130 100 (by decide))
          have b146 : 1 ≤ (s128 100) ∧ (s128 100) ≤ 64 := hS128 100
          have e147 : s128 101 = (s80 101) := (f130 101 (by decide))
          have b148 : 1 ≤ (s128 101) ∧ (s128 101) ≤ 64 := hS128 101
          have e149 : s128 102 = (s80 102) := (f130 102 (by decide))
          have b150 : 1 ≤ (s128 102) ∧ (s128 102) ≤ 3 := hS128 102
          have e151 : s128 1206 = (s80 1206) := (f130 1206 (by decide))
          have b152 : 0 ≤ (s128 1206) ∧ (s128 1206) ≤ 64 := hS128 1206
          have e153 : s128 1207 = (s80 1207) := (f130 1207 (by decide))
          have b154 : 0 ≤ (s128 1207) ∧ (s128 1207) ≤ 12288 := hS128 1207
          have e155 : s128 801 = (s80 801) := (f130 801 (by decide))
          have b156 : -2147483648 ≤ (s128 801) ∧ (s128 801) ≤ 2147483647 := hS128 801
          have e157 : s128 401 = (s80 401) := (f130 401 (by decide))
          have b158 : 0 ≤ (s128 401) ∧ (s128 401) ≤ 262144 := hS128 401
          have e159 : s128 1602 = (s80 1602) := (f130 1602 (by decide))
          have b160 : 1 ≤ (s128 1602) ∧ (s128 1602) ≤ 8 := hS128 1602
          have e161 : s128 902 = (s80 902) := (f130 902 (by decide))
          have b162 : 0 ≤ (s128 902) ∧ (s128 902) ≤ 31 := hS128 902
          have hx163 : wrl (rX Z (s 1206) (S y) y x X).1 (s128 401) (s128 1601) (s128 1602) (c82 (p81 400)) := by rw [f130 401 (by decide), f130 1601 (by decide), f130 1602 (by decide)]; exact tw
          have hx164 : zq Z (s128 800) (s128 801) (s128 802) (s128 803) (s128 804) (s128 805) (s128 806) (s128 807) (s128 808) (s128 809) := by rw [f130 800 (by decide), f130 801 (by decide), f130 802 (by decide), f130 803 (by decide), f130 804 (by decide), f130 805 (by decide), f130 806 (by decide), f130 807 (by decide), f130 808 (by decide), f130 809 (by decide)]; exact hx117
          have hbf : nB (fil X.2.2.2 (64 * y + x).toNat (rnX Z (s 1206) (S y) y x X) (nA X.2.2.2 x y)) (x + (rnX Z (s 1206) (S y) y x X)) y = (nB X.2.2.2 (x + (rnX Z (s 1206) (S y) y x X)) y) := nB_fil (by omega) (by omega)
          have uS : s128 1212 = sS Z (nA X.2.2.2 x y) (nB X.2.2.2 (x + (rnX Z (s 1206) (S y) y x X)) y) := by have h := k131; rw [la8] at h; rw [← hbf]; exact h
          have uP : s128 1211 = 365 + sS Z (nA X.2.2.2 x y) (nB X.2.2.2 (x + (rnX Z (s 1206) (S y) y x X)) y) := by have h := k132; rw [la8] at h; rw [← hbf]; exact h
          have uG : s128 1214 = gS Z (nA X.2.2.2 x y) (nB X.2.2.2 (x + (rnX Z (s 1206) (S y) y x X)) y) := by have h := k133; rw [la8] at h; rw [← hbf]; exact h
          have uT : s128 1215 = tS Z (nA X.2.2.2 x y) (nB X.2.2.2 (x + (rnX Z (s 1206) (S y) y x X)) y) := by have h := k134; rw [la8] at h; rw [← hbf]; exact h
          have uK : s128 1213 = kS X.2.1 (sS Z (nA X.2.2.2 x y) (nB X.2.2.2 (x + (rnX Z (s 1206) (S y) y x X)) y)) := by have h := k135; rw [la8] at h; rw [← hbf]; exact h
          have uO : s128 1216 = oS X.2.1 (sS Z (nA X.2.2.2 x y) (nB X.2.2.2 (x + (rnX Z (s 1206) (S y) y x X)) y)) := by have h := k136; rw [la8] at h; rw [← hbf]; exact h
          have hSx := hS (x + (rnX Z (s 1206) (S y) y x X)) (by omega) (by omega)
          clear k131 k132 k133 k134 k135 k136
          have hns := stX_n hq2 hvX (by omega) (by omega) (by omega) hS hgz (by omega)
          have ugb : 0 ≤ s128 1214 ∧ s128 1214 ≤ Z 3017 := by rw [uG]; exact hns.2
          have u9 : s128 902 = (rX Z (s 1206) (S y) y x X).2.2.1 := (f130 902 (by decide)).trans tp
          have u9b : 0 ≤ s128 902 ∧ s128 902 ≤ 22 := by omega
          have hj9 := jj_bd u9b
          refine tt_k 2 (S' := (130, [some (.inr (.inl 12)), some (.inr (.inl 1)), some (.inl a_), some (.inl y), some (.inl ((x + (rnX Z (s 1206) (S y) y x X))))], [.inl ((x + (rnX Z (s 1206) (S y) y x X))), .inr (.inl 12)], n78, D79, s128, p81, c82)) rfl ?_
          have hs7 : s128 1207 = s 1207 := by omega
          have hs6 : s128 1206 = s 1206 := by omega
          have hsc : c82 (p81 1205) = c0 (p0 1205) := by rw [g86 1205 (by decide), hP0 1205 (by decide), hq4, ← hP0 104 (by decide), ← g86 104 (by decide), fk_k (k := 104) kf88 (by decide), g86 104 (by decide)]
          have b165 : 0 ≤ (s128 800) ∧ (s128 800) ≤ 65535 := hS128 800
          have b166 : -2147483648 ≤ (s128 802) ∧ (s128 802) ≤ 2147483647 := hS128 802
          have b167 : -2147483648 ≤ (s128 803) ∧ (s128 803) ≤ 2147483647 := hS128 803
          have b168 : -2147483648 ≤ (s128 804) ∧ (s128 804) ≤ 2147483647 := hS128 804
          have b169 : 0 ≤ (s128 805) ∧ (s128 805) ≤ 65535 := hS128 805
          have b170 : 1 ≤ (s128 806) ∧ (s128 806) ≤ 511 := hS128 806
          have b171 : 0 ≤ (s128 807) ∧ (s128 807) ≤ 65536 := hS128 807
          have b172 : 0 ≤ (s128 808) ∧ (s128 808) ≤ 30 := hS128 808
          have b173 : 0 ≤ (s128 809) ∧ (s128 809) ≤ 64 := hS128 809
          have b174 : 0 ≤ (s128 1601) ∧ (s128 1601) ≤ 255 := hS128 1601
          refine tt_cl (by omega) rfl (e_tellStop (Zi := Zi) (q := q) (n := n78) (D := D79) (s := s128) (p := p81) (c := c82) (by omega) hz (by omega) FK98.1 hS128 hC82 hW129 (64 * y + x) Z (rX Z (s 1206) (S y) y x X).1 X.2.1 (S y (x + (rnX Z (s 1206) (S y) y x X))) ((x + (rnX Z (s 1206) (S y) y x X))) (by omega) hc137 (show 7 * (s128 401) - (s128 1602) + 300 ≤ 1834990 by omega) (show (s128 1207) + ((x + (rnX Z (s 1206) (S y) y x X))) < (ln D79 (p81 1205) : Int) by omega) hx116 hx164 hq2 hvX.1 (show 0 ≤ (64 * y + x) ∧ (64 * y + x) ≤ 4095 by omega) (by rw [hs7, hsc]; exact hsm (x + (rnX Z (s 1206) (S y) y x X)) (by omega) (by omega)) (show (0 ≤ (S y (x + (rnX Z (s 1206) (S y) y x X))) ∧ (S y (x + (rnX Z (s 1206) (S y) y x X))) ≤ Z 3017) ∧ (0 ≤ (s128 1214) ∧ (s128 1214) ≤ Z 3017) by omega) hx163 (show (0 ≤ (s128 1213) ∧ (s128 1213) ≤ 30) ∧ (0 ≤ (s128 1212) ∧ (s128 1212) ≤ 1) by omega) (by rw [uG, uT, uS, uO]; exact hns.1) hj9.2) ?_
          rintro _ _ ⟨n175, D176, s177, p178, c179, rfl, rfl, hS177, hC179, hW180, f181, g182, xe183, kf184, k185, k186, k187, k188, k189, k190⟩
          have FK191 : fk p c n175 p178 c179 [400, 901, 1204] := fk_tr FK98 kf184 (by decide)
          show tt Zi d 32 (133, [some (.inr (.inl 12)), some (.inr (.inl 1)), some (.inl a_), some (.inl y), some (.inl ((x + (rnX Z (s 1206) (S y) y x X))))], [], n175, D176, s177, p178, c179) _
          replace k186 : 7 * (s177 401) - (s177 1602) ≤ 7 * (s128 401) - (s128 1602) + 94 := k186
          replace k190 : (s177 902) = (if 0 < (s128 902) then (s128 902) - 1 else 0) := k190
          have b192 : 0 ≤ (s177 401) ∧ (s177 401) ≤ 262144 := hS177 401
          have b193 : 1 ≤ (s177 1602) ∧ (s177 1602) ≤ 8 := hS177 1602
          have b194 : 0 ≤ (s177 1601) ∧ (s177 1601) ≤ 255 := hS177 1601
          have b195 : 0 ≤ (s177 902) ∧ (s177 902) ≤ 31 := hS177 902
          have e196 : s177 100 = (s128 100) := (f181 100 (by decide))
          have b197 : 1 ≤ (s177 100) ∧ (s177 100) ≤ 64 := hS177 100
          have e198 : s177 101 = (s128 101) := (f181 101 (by decide))
          have b199 : 1 ≤ (s177 101) ∧ (s177 101) ≤ 64 := hS177 101
          have e200 : s177 102 = (s128 102) := (f181 102 (by decide))
          have b201 : 1 ≤ (s177 102) ∧ (s177 102) ≤ 3 := hS177 102
          have e202 : s177 1206 = (s128 1206) := (f181 1206 (by decide))
          have b203 : 0 ≤ (s177 1206) ∧ (s177 1206) ≤ 64 := hS177 1206
          have e204 : s177 1207 = (s128 1207) := (f181 1207 (by decide))
          have b205 : 0 ≤ (s177 1207) ∧ (s177 1207) ≤ 12288 := hS177 1207
          have e206 : s177 801 = (s128 801) := (f181 801 (by decide))
          have b207 : -2147483648 ≤ (s177 801) ∧ (s177 801) ≤ 2147483647 := hS177 801
          have e208 : ln D176 (p178 1205) = ln D79 (p81 1205) := (congrArg (ln D176) (g182 1205 (by decide))).trans (ext_ln xe183 (arr_lt (hW129).s12.1))
          have hx209 : zq Z (s177 800) (s177 801) (s177 802) (s177 803) (s177 804) (s177 805) (s177 806) (s177 807) (s177 808) (s177 809) := by rw [f181 800 (by decide), f181 801 (by decide), f181 802 (by decide), f181 803 (by decide), f181 804 (by decide), f181 805 (by decide), f181 806 (by decide), f181 807 (by decide), f181 808 (by decide), f181 809 (by decide)]; exact hx164
          have uw := k187
          rw [uG, uT, uS, uO, uK, u9] at uw
          have um := k188
          rw [uP, uG, uT, uS, uO] at um
          have ur := k189
          rw [uG, uT] at ur
          have up_ := k190
          rw [u9] at up_
          refine tt_k 2 (S' := (66, [some (.inr (.inl 12)), some (.inr (.inl 1)), some (.inl a_), some (.inl y), some (.inl (((x + (rnX Z (s 1206) (S y) y x X)) + 1)))], [], n175, D176, s177, p178, c179)) rfl ?_
          have hI2 := (plI_s hq2 hI (by omega) (by omega) (by omega) (by omega) hS).1
          have hst : stX Z (s 1206) (S y) y x X = xStp Z (S y (x + (rnX Z (s 1206) (S y) y x X))) (nA X.2.2.2 x y) (nB X.2.2.2 (x + (rnX Z (s 1206) (S y) y x X)) y) (64 * y + (x + (rnX Z (s 1206) (S y) y x X))).toNat (rX Z (s 1206) (S y) y x X) := by unfold stX; rw [if_pos hgz, if_pos (by omega)]
          have hn1 : stN Z (s 1206) (S y) y x X = (rnX Z (s 1206) (S y) y x X) + 1 := by unfold stN; rw [if_pos hgz, if_pos (by omega)]
          rw [hn1, hst] at hI2
          have hmin2 : min (x + (rnX Z (s 1206) (S y) y x X) + 1) (s 1206) = x + ((rnX Z (s 1206) (S y) y x X) + 1) := by omega
          have hxa : x + ((rnX Z (s 1206) (S y) y x X) + 1) = x + (rnX Z (s 1206) (S y) y x X) + 1 := by omega
          have hh2 := hr_st (v := rR Z (gS Z (nA X.2.2.2 x y) (nB X.2.2.2 (x + (rnX Z (s 1206) (S y) y x X)) y)) (tS Z (nA X.2.2.2 x y) (nB X.2.2.2 (x + (rnX Z (s 1206) (S y) y x X)) y)) (eS Z (nA X.2.2.2 x y) (nB X.2.2.2 (x + (rnX Z (s 1206) (S y) y x X)) y) (S y (x + (rnX Z (s 1206) (S y) y x X))))) hh8 (by omega) (by omega) (by omega)
          exact ih (((x + (rnX Z (s 1206) (S y) y x X)) + 1)) n175 D176 s177 p178 c179 (by omega) hS177 (fr_tr (fr_tr (fr_tr (fr_tr hF0 f32 (by decide)) f85 (by decide)) f130 (by decide)) f181 (by decide)) hC179 hW180 (frp_tr (frp_tr hP0 g86 (by decide)) g182 (by decide)) (ext_tr (ext_tr hE0 xe87) xe183) FK191 k185 (show 7 * (s177 401) - (s177 1602) ≤ U2 + 110 * (((x + (rnX Z (s 1206) (S y) y x X)) + 1)) + 7150 * y by omega) ⟨_, (by rw [hmin2]; exact hI2), uw, um, up_, (by rw [hmin2, hxa, ur, fk_k (k := 1203) kf184 (by decide)]; exact hh2)⟩ (show (65 - (((x + (rnX Z (s 1206) (S y) y x X)) + 1))).toNat < m by omega)
      · show tt Zi d 32 (88, [some (.inr (.inl 12)), some (.inr (.inl 1)), some (.inl a_), some (.inl y), some (.inl x)], [], n0, D0, s30, p0, c0) _
        refine tt_k 1 (S' := (89, [some (.inr (.inl 12)), some (.inr (.inl 1)), some (.inl a_), some (.inl y), some (.inl x)], [.inr (.inl 12)], n0, D0, s30, p0, c0)) rfl ?_
        have b210 : 0 ≤ (s30 800) ∧ (s30 800) ≤ 65535 := hS30 800
        have b211 : -2147483648 ≤ (s30 802) ∧ (s30 802) ≤ 2147483647 := hS30 802
        have b212 : -2147483648 ≤ (s30 803) ∧ (s30 803) ≤ 2147483647 := hS30 803
        have b213 : -2147483648 ≤ (s30 804) ∧ (s30 804) ≤ 2147483647 := hS30 804
        have b214 : 0 ≤ (s30 805) ∧ (s30 805) ≤ 65535 := hS30 805
        have b215 : 1 ≤ (s30 806) ∧ (s30 806) ≤ 511 := hS30 806
        have b216 : 0 ≤ (s30 807) ∧ (s30 807) ≤ 65536 := hS30 807
        have b217 : 0 ≤ (s30 808) ∧ (s30 808) ≤ 30 := hS30 808
        have b218 : 0 ≤ (s30 809) ∧ (s30 809) ≤ 64 := hS30 809
        refine tt_cl (by omega) rfl (e_aim (Zi := Zi) (q := q) (n := n0) (D := D0) (s := s30) (p := p0) (c := c0) (by omega) hz (by omega) hK0.1 hS30 hC0 hW31 (64 * y + x) Z X.2.1 hmr hx66 hq2 hvX.1 (show 0 ≤ (64 * y + x) ∧ (64 * y + x) ≤ 4095 by omega)) ?_
        rintro _ _ ⟨s219, rfl, rfl, hS219, hW220, f221, k222, k223, k224⟩
        have hc225 : wo s219 := wo_fr f221 (by decide) hc38
        show tt Zi d 32 (92, [some (.inr (.inl 12)), some (.inr (.inl 1)), some (.inl a_), some (.inl y), some (.inl x)], [], n0, D0, s219, p0, c0) _
        replace k222 : (s219 1214) = gR Z ((s30 1208)) ((s30 1209)) ((s30 1210)) ((s30 1215)) ((s30 1211)).toNat X.2.1 := k222
        replace k223 : (s219 1213) = ke (X.2.1 36 ((s30 1211)).toNat) (X.2.1 39 ((s30 1211)).toNat) := k223
        replace k224 : (s219 1216) = oR Z ((s30 1211)).toNat X.2.1 := k224
        have b226 : 0 ≤ (s219 1214) ∧ (s219 1214) ≤ 65535 := hS219 1214
        have b227 : 0 ≤ (s219 1213) ∧ (s219 1213) ≤ 30 := hS219 1213
        have b228 : 0 ≤ (s219 1216) ∧ (s219 1216) ≤ 1 := hS219 1216
        have e229 : s219 100 = (s30 100) := (f221 100 (by decide))
        have b230 : 1 ≤ (s219 100) ∧ (s219 100) ≤ 64 := hS219 100
        have e231 : s219 101 = (s30 101) := (f221 101 (by decide))
        have b232 : 1 ≤ (s219 101) ∧ (s219 101) ≤ 64 := hS219 101
        have e233 : s219 102 = (s30 102) := (f221 102 (by decide))
        have b234 : 1 ≤ (s219 102) ∧ (s219 102) ≤ 3 := hS219 102
        have e235 : s219 1206 = (s30 1206) := (f221 1206 (by decide))
        have b236 : 0 ≤ (s219 1206) ∧ (s219 1206) ≤ 64 := hS219 1206
        have e237 : s219 1207 = (s30 1207) := (f221 1207 (by decide))
        have b238 : 0 ≤ (s219 1207) ∧ (s219 1207) ≤ 12288 := hS219 1207
        have e239 : s219 801 = (s30 801) := (f221 801 (by decide))
        have b240 : -2147483648 ≤ (s219 801) ∧ (s219 801) ≤ 2147483647 := hS219 801
        have e241 : s219 401 = (s30 401) := (f221 401 (by decide))
        have b242 : 0 ≤ (s219 401) ∧ (s219 401) ≤ 262144 := hS219 401
        have e243 : s219 1602 = (s30 1602) := (f221 1602 (by decide))
        have b244 : 1 ≤ (s219 1602) ∧ (s219 1602) ≤ 8 := hS219 1602
        have e245 : s219 902 = (s30 902) := (f221 902 (by decide))
        have b246 : 0 ≤ (s219 902) ∧ (s219 902) ≤ 31 := hS219 902
        have hx247 : wrl X.1 (s219 401) (s219 1601) (s219 1602) (c0 (p0 400)) := by rw [f221 401 (by decide), f221 1601 (by decide), f221 1602 (by decide)]; exact hx65
        have hx248 : zq Z (s219 800) (s219 801) (s219 802) (s219 803) (s219 804) (s219 805) (s219 806) (s219 807) (s219 808) (s219 809) := by rw [f221 800 (by decide), f221 801 (by decide), f221 802 (by decide), f221 803 (by decide), f221 804 (by decide), f221 805 (by decide), f221 806 (by decide), f221 807 (by decide), f221 808 (by decide), f221 809 (by decide)]; exact hx66
        have hgn : (gsX Z (s 1206) y x X) ≠ 0 := by omega
        have ag : s219 1214 = gR Z (nA X.2.2.2 x y) (nB X.2.2.2 x y) (nC X.2.2.2 x y) (if (gsX Z (s 1206) y x X) < 0 then 1 else 0) (fA (gsX Z (s 1206) y x X)).toNat X.2.1 := by rw [k222, la, lb, lc, lt, lp]
        have ak : s219 1213 = ke (X.2.1 36 (fA (gsX Z (s 1206) y x X)).toNat) (X.2.1 39 (fA (gsX Z (s 1206) y x X)).toNat) := by rw [k223, lp]
        have ao : s219 1216 = oR Z (fA (gsX Z (s 1206) y x X)).toNat X.2.1 := by rw [k224, lp]
        have at_ : s219 1215 = (if (gsX Z (s 1206) y x X) < 0 then 1 else 0) := (f221 1215 (by decide)).trans lt
        have ap : s219 1211 = fA (gsX Z (s 1206) y x X) := (f221 1211 (by decide)).trans lp
        have agb : 0 ≤ s219 1214 ∧ s219 1214 ≤ Z 3017 := by rw [ag]; exact fW_bd hq2
        clear k222 k223 k224
        have hSx := hS x (by omega) (by omega)
        have b249 : 0 ≤ (s219 1215) ∧ (s219 1215) ≤ 1 := hS219 1215
        refine tt_k 2 (S' := (95, [some (.inr (.inl 12)), some (.inr (.inl 1)), some (.inl a_), some (.inl y), some (.inl x)], [.inl x, .inr (.inl 12)], n0, D0, s219, p0, c0)) rfl ?_
        have hs7 : s219 1207 = s 1207 := by omega
        have hs6 : s219 1206 = s 1206 := by omega
        have b250 : 0 ≤ (s219 800) ∧ (s219 800) ≤ 65535 := hS219 800
        have b251 : -2147483648 ≤ (s219 802) ∧ (s219 802) ≤ 2147483647 := hS219 802
        have b252 : -2147483648 ≤ (s219 803) ∧ (s219 803) ≤ 2147483647 := hS219 803
        have b253 : -2147483648 ≤ (s219 804) ∧ (s219 804) ≤ 2147483647 := hS219 804
        have b254 : 0 ≤ (s219 805) ∧ (s219 805) ≤ 65535 := hS219 805
        have b255 : 1 ≤ (s219 806) ∧ (s219 806) ≤ 511 := hS219 806
        have b256 : 0 ≤ (s219 807) ∧ (s219 807) ≤ 65536 := hS219 807
        have b257 : 0 ≤ (s219 808) ∧ (s219 808) ≤ 30 := hS219 808
        have b258 : 0 ≤ (s219 809) ∧ (s219 809) ≤ 64 := hS219 809
        have b259 : 0 ≤ (s219 1601) ∧ (s219 1601) ≤ 255 := hS219 1601
        refine tt_cl (by omega) rfl (e_tellSample (Zi := Zi) (q := q) (n := n0) (D := D0) (s := s219) (p := p0) (c := c0) (by omega) hz (by omega) hK0.1 hS219 hC0 hW220 (64 * y + x) Z X.1 X.2.1 (S y x) x (by omega) hc225 (show 7 * (s219 401) - (s219 1602) + 300 ≤ 1834990 by omega) (show (s219 1207) + x < (ln D0 (p0 1205) : Int) by omega) hmr hx248 hq2 hvX.1 (show 0 ≤ (64 * y + x) ∧ (64 * y + x) ≤ 4095 by omega) (by rw [hs7]; exact hsm x (by omega) (by omega)) (show (0 ≤ (S y x) ∧ (S y x) ≤ Z 3017) ∧ (0 ≤ (s219 1214) ∧ (s219 1214) ≤ Z 3017) by omega) hx247 (show 0 ≤ (s219 1213) ∧ (s219 1213) ≤ 30 by omega)) ?_
        rintro _ _ ⟨n260, D261, s262, p263, c264, rfl, rfl, hS262, hC264, hW265, f266, g267, xe268, kf269, k270, k271, k272, k273, k274⟩
        have FK275 : fk p c n260 p263 c264 [400, 901, 1204] := fk_tr hK0 kf269 (by decide)
        show tt Zi d 32 (98, [some (.inr (.inl 12)), some (.inr (.inl 1)), some (.inl a_), some (.inl y), some (.inl x)], [], n260, D261, s262, p263, c264) _
        replace k271 : 7 * (s262 401) - (s262 1602) ≤ 7 * (s219 401) - (s219 1602) + 94 := k271
        have b276 : 0 ≤ (s262 401) ∧ (s262 401) ≤ 262144 := hS262 401
        have b277 : 1 ≤ (s262 1602) ∧ (s262 1602) ≤ 8 := hS262 1602
        have b278 : 0 ≤ (s262 1601) ∧ (s262 1601) ≤ 255 := hS262 1601
        have b279 : 0 ≤ (s219 1211) ∧ (s219 1211) ≤ 366 := hS219 1211
        have e280 : s262 100 = (s219 100) := (f266 100 (by decide))
        have b281 : 1 ≤ (s262 100) ∧ (s262 100) ≤ 64 := hS262 100
        have e282 : s262 101 = (s219 101) := (f266 101 (by decide))
        have b283 : 1 ≤ (s262 101) ∧ (s262 101) ≤ 64 := hS262 101
        have e284 : s262 102 = (s219 102) := (f266 102 (by decide))
        have b285 : 1 ≤ (s262 102) ∧ (s262 102) ≤ 3 := hS262 102
        have e286 : s262 1206 = (s219 1206) := (f266 1206 (by decide))
        have b287 : 0 ≤ (s262 1206) ∧ (s262 1206) ≤ 64 := hS262 1206
        have e288 : s262 1207 = (s219 1207) := (f266 1207 (by decide))
        have b289 : 0 ≤ (s262 1207) ∧ (s262 1207) ≤ 12288 := hS262 1207
        have e290 : s262 801 = (s219 801) := (f266 801 (by decide))
        have b291 : -2147483648 ≤ (s262 801) ∧ (s262 801) ≤ 2147483647 := hS262 801
        have e292 : s262 902 = (s219 902) := (f266 902 (by decide))
        have b293 : 0 ≤ (s262 902) ∧ (s262 902) ≤ 31 := hS262 902
        have e294 : ln D261 (p263 1205) = ln D0 (p0 1205) := (congrArg (ln D261) (g267 1205 (by decide))).trans (ext_ln xe268 (arr_lt (hW220).s12.1))
        have hx295 : zq Z (s262 800) (s262 801) (s262 802) (s262 803) (s262 804) (s262 805) (s262 806) (s262 807) (s262 808) (s262 809) := by rw [f266 800 (by decide), f266 801 (by decide), f266 802 (by decide), f266 803 (by decide), f266 804 (by decide), f266 805 (by decide), f266 806 (by decide), f266 807 (by decide), f266 808 (by decide), f266 809 (by decide)]; exact hx248
        have tw := k272
        rw [ag, at_, ao, ak] at tw
        have tm := k273
        rw [ap, ag, at_] at tm
        have tr := k274
        rw [ag, at_] at tr
        refine tt_k 3 (S' := (66, [some (.inr (.inl 12)), some (.inr (.inl 1)), some (.inl a_), some (.inl y), some (.inl (x + 1))], [], n260, D261, s262, p263, c264)) rfl ?_
        have hst : stX Z (s 1206) (S y) y x X = xReg Z (S y x) (nA X.2.2.2 x y) (nB X.2.2.2 x y) (nC X.2.2.2 x y) (if (gsX Z (s 1206) y x X) < 0 then 1 else 0) (fA (gsX Z (s 1206) y x X)).toNat (64 * y + x).toNat X := by unfold stX; rw [if_neg hgn]
        have hn1 : stN Z (s 1206) (S y) y x X = 1 := by unfold stN; rw [if_neg hgn]
        have hI2 := (plI_s hq2 hI (by omega) (by omega) (by omega) (by omega) hS).1
        rw [hn1, hst] at hI2
        have hh2 := hr_st (v := rR Z (gR Z (nA X.2.2.2 x y) (nB X.2.2.2 x y) (nC X.2.2.2 x y) (if (gsX Z (s 1206) y x X) < 0 then 1 else 0) (fA (gsX Z (s 1206) y x X)).toNat X.2.1) (if (gsX Z (s 1206) y x X) < 0 then 1 else 0) (eR Z (gR Z (nA X.2.2.2 x y) (nB X.2.2.2 x y) (nC X.2.2.2 x y) (if (gsX Z (s 1206) y x X) < 0 then 1 else 0) (fA (gsX Z (s 1206) y x X)).toNat X.2.1) (if (gsX Z (s 1206) y x X) < 0 then 1 else 0) (S y x))) hhr (by omega) (by omega) (by omega)
        have hmin2 : min (x + 1) (s 1206) = x + 1 := by omega
        exact ih (x + 1) n260 D261 s262 p263 c264 (by omega) hS262 (fr_tr (fr_tr (fr_tr hF0 f32 (by decide)) f221 (by decide)) f266 (by decide)) hC264 hW265 (frp_tr hP0 g267 (by decide)) (ext_tr hE0 xe268) FK275 k270 (show 7 * (s262 401) - (s262 1602) ≤ U2 + 110 * (x + 1) + 7150 * y by omega) (by refine ⟨_, (by rw [hmin2]; exact hI2), tw, tm, ?_, (by rw [hmin2, tr, fk_k (k := 1203) kf269 (by decide)]; exact hh2)⟩; show s262 902 = X.2.2.1; omega) (show (65 - (x + 1)).toNat < m by omega)
