/-! the class packs, exactly -/
theorem wFin_h {V : WT} : (wFin V).2.2.1 = 0 ∧ (wFin V).2.2.2 = 8 := by
  unfold wFin
  split <;> exact ⟨rfl, rfl⟩
theorem sm_nn {g : Nat → Int} {q n : Nat} {D : Nat → Nat × Nat} {p : Nat → Nat} {s : Nat → Int} {c : Nat → Nat → Int} {i : Nat} (h : wp q g n D p s) (hC : bC D c) : 0 ≤ c (p 104) i := by
  have h1 := hC (p 104) i
  rw [h.p1.2.1.1, h.p1.2.1.2] at h1
  exact h1.1
set_option maxRecDepth 100000 in
set_option maxHeartbeats 4000000 in
theorem e_pack_L82 {g : Nat → Int} {Zi : Nat → Option (Nat × (Nat → Int))} {d n q : Nat} {D : Nat → Nat × Nat} {s : Nat → Int} {p : Nat → Nat} {c : Nat → Nat → Int}  {Q : mi_Rs → mi_H → Prop} (hd : 6 ≤ d) (hz : zk Zi) (hq : q + 12 ≤ 400001) (hD : wd n p) (hS : bS s) (hC : bC D c) (hW : wp q g n D p s) (Z : Nat → Int) (E : Int → Int → Int → Int) (R : WT) (RK : MT) (nr : Int) (b_nr : -2147483648 ≤ nr ∧ nr ≤ 2147483647) (hq0 : zq Z (s 800) (s 801) (s 802) (s 803) (s 804) (s 805) (s 806) (s 807) (s 808) (s 809)) (hq1 : mv Z) (hq2 : cv E (s 100) (s 101) (s 102) (c (p 104))) (hq3 : ∀ a y x : Int, (0 ≤ a ∧ a < s 102) → (0 ≤ y ∧ y < s 101) → (0 ≤ x ∧ x < s 100) → 0 ≤ E a y x ∧ E a y x ≤ Z 3017) (hq4 : 7 * s 401 - s 1602 ≤ 1000)
  (hK : ∀ (pn : Int) (n0 : Nat) (D0 : Nat → Nat × Nat) (s0 : Nat → Int) (p0 : Nat → Nat) (c0 : Nat → Nat → Int) (b_pn : 0 ≤ pn ∧ pn ≤ 3) (hS0 : bS s0) (hF0 : fr s s0 [401, 902, 1206, 1207, 1208, 1209, 1210, 1211, 1212, 1213, 1214, 1215, 1216, 1601, 1602]) (hC0 : bC D0 c0) (hW0 : wp q g n0 D0 p0 s0) (hP0 : frp p p0 [400, 900, 901, 1203, 1204, 1205]) (hE0 : ext n D n0 D0) (hK0 : fk p c n0 p0 c0 [400, 900, 901, 1203, 1204]) (hc_wo : wo s0) (i0 : 7 * s0 401 - s0 1602 ≤ 1000 + 460000 * pn) (i1 : pn ≤ s 102) (i2 : s0 1601 = 0 ∧ s0 1602 = 8) (i3 : ∃ W1 K1, wrl W1 (s0 401) (s0 1601) (s0 1602) (c0 (p0 400)) ∧ pPl Z (s 100) (s 101) E nr (s 102 - pn).toNat pn W1 = R ∧ mrk K1 (c0 (p0 900)) ∧ pKp Z (s 100) (s 101) E nr (s 102 - pn).toNat pn W1 K1 = RK), (s 102 ≤ pn) → tt Zi d 106 (127, [some (.inr (.inl 0)), some (.inl nr), some (.inl pn)], [], n0, D0, s0, p0, c0) Q) :
  ∀ (m : Nat) (pn : Int) (n0 : Nat) (D0 : Nat → Nat × Nat) (s0 : Nat → Int) (p0 : Nat → Nat) (c0 : Nat → Nat → Int) (b_pn : 0 ≤ pn ∧ pn ≤ 3) (hS0 : bS s0) (hF0 : fr s s0 [401, 902, 1206, 1207, 1208, 1209, 1210, 1211, 1212, 1213, 1214, 1215, 1216, 1601, 1602]) (hC0 : bC D0 c0) (hW0 : wp q g n0 D0 p0 s0) (hP0 : frp p p0 [400, 900, 901, 1203, 1204, 1205]) (hE0 : ext n D n0 D0) (hK0 : fk p c n0 p0 c0 [400, 900, 901, 1203, 1204]) (hc_wo : wo s0) (i0 : 7 * s0 401 - s0 1602 ≤ 1000 + 460000 * pn) (i1 : pn ≤ s 102) (i2 : s0 1601 = 0 ∧ s0 1602 = 8) (i3 : ∃ W1 K1, wrl W1 (s0 401) (s0 1601) (s0 1602) (c0 (p0 400)) ∧ pPl Z (s 100) (s 101) E nr (s 102 - pn).toNat pn W1 = R ∧ mrk K1 (c0 (p0 900)) ∧ pKp Z (s 100) (s 101) E nr (s 102 - pn).toNat pn W1 K1 = RK), (s 102 - pn).toNat < m → tt Zi d 106 (82, [some (.inr (.inl 0)), some (.inl nr), some (.inl pn)], [], n0, D0, s0, p0, c0) Q := by
  intro m
  induction m with
  | zero => intro pn n0 D0 s0 p0 c0 b_pn hS0 hF0 hC0 hW0 hP0 hE0 hK0 hc_wo i0 i1 i2 i3 hm; exact absurd hm (by omega)
  | succ m ih =>
    intro pn n0 D0 s0 p0 c0 b_pn hS0 hF0 hC0 hW0 hP0 hE0 hK0 hc_wo i0 i1 i2 i3 hm
    have e1 : s0 801 = s 801 := hF0 801 (by decide)
    have b2 : -2147483648 ≤ (s0 801) ∧ (s0 801) ≤ 2147483647 := hS0 801
    have b3 : -2147483648 ≤ (s 801) ∧ (s 801) ≤ 2147483647 := hS 801
    have e4 : s0 800 = s 800 := hF0 800 (by decide)
    have b5 : 0 ≤ (s0 800) ∧ (s0 800) ≤ 65535 := hS0 800
    have b6 : 0 ≤ (s 800) ∧ (s 800) ≤ 65535 := hS 800
    have e7 : s0 100 = s 100 := hF0 100 (by decide)
    have b8 : 1 ≤ (s0 100) ∧ (s0 100) ≤ 64 := hS0 100
    have b9 : 1 ≤ (s 100) ∧ (s 100) ≤ 64 := hS 100
    have e10 : s0 101 = s 101 := hF0 101 (by decide)
    have b11 : 1 ≤ (s0 101) ∧ (s0 101) ≤ 64 := hS0 101
    have b12 : 1 ≤ (s 101) ∧ (s 101) ≤ 64 := hS 101
    have e13 : s0 102 = s 102 := hF0 102 (by decide)
    have b14 : 1 ≤ (s0 102) ∧ (s0 102) ≤ 3 := hS0 102
    have b15 : 1 ≤ (s 102) ∧ (s 102) ≤ 3 := hS 102
    have e16 : s0 103 = s 103 := hF0 103 (by decide)
    have b17 : 2 ≤ (s0 103) ∧ (s0 103) ≤ 16 := hS0 103
    have b18 : 2 ≤ (s 103) ∧ (s 103) ≤ 16 := hS 103
    obtain ⟨W1, K1, hw1, hw2, hk1, hk2⟩ := i3
    have hz0 : zq Z (s0 800) (s0 801) (s0 802) (s0 803) (s0 804) (s0 805) (s0 806) (s0 807) (s0 808) (s0 809) := by rw [hF0 800 (by decide), hF0 801 (by decide), hF0 802 (by decide), hF0 803 (by decide), hF0 804 (by decide), hF0 805 (by decide), hF0 806 (by decide), hF0 807 (by decide), hF0 808 (by decide), hF0 809 (by decide)]; exact hq0
    have b19 : 1 ≤ (s0 1602) ∧ (s0 1602) ≤ 8 := hS0 1602
    have b20 : 0 ≤ (s0 401) ∧ (s0 401) ≤ 262144 := hS0 401
    have b21 : 1 ≤ (s 1602) ∧ (s 1602) ≤ 8 := hS 1602
    have b22 : 0 ≤ (s 401) ∧ (s 401) ≤ 262144 := hS 401
    refine tt_k 4 (S' := (90, [some (.inr (.inl 0)), some (.inl nr), some (.inl pn)], [.inl (s0 102), .inl pn], n0, D0, s0, p0, c0)) rfl ?_
    refine tb_ge (x := pn) (y := (s0 102)) rfl rfl (by omega) (fun h23 => ?_) (fun h23 => ?_)
    · show tt Zi d 106 (127, [some (.inr (.inl 0)), some (.inl nr), some (.inl pn)], [], n0, D0, s0, p0, c0) _
      exact hK pn n0 D0 s0 p0 c0 (by omega) hS0 hF0 hC0 hW0 hP0 hE0 hK0 hc_wo (show 7 * (s0 401) - (s0 1602) ≤ 1000 + 460000 * pn by omega) (show pn ≤ s 102 by omega) i2 ⟨W1, K1, hw1, hw2, hk1, hk2⟩ (by omega)
    · show tt Zi d 106 (93, [some (.inr (.inl 0)), some (.inl nr), some (.inl pn)], [], n0, D0, s0, p0, c0) _
      refine tt_k 3 (S' := (96, [some (.inr (.inl 0)), some (.inl nr), some (.inl pn)], [.inl nr, .inl pn, .inr (.inl 0)], n0, D0, s0, p0, c0)) rfl ?_
      have b24 : 0 ≤ (s0 1601) ∧ (s0 1601) ≤ 255 := hS0 1601
      refine tt_cl (by omega) rfl (e_writeScan (Zi := Zi) (q := q) (n := n0) (D := D0) (s := s0) (p := p0) (c := c0) (by omega) hz (by omega) hK0.1 hS0 hC0 hW0 W1 pn nr (by omega) (by omega) (show (s0 401) ≤ 200100 by omega) hw1) ?_
      rintro _ _ ⟨n25, D26, s27, p28, c29, rfl, rfl, hS27, hC29, hW30, f31, g32, xe33, kf34, k35, k36⟩
      have hc37 : wo s27 := wo_fr f31 (by decide) hc_wo
      have FK38 : fk p c n25 p28 c29 [400, 900, 901, 1203, 1204] := fk_tr hK0 kf34 (by decide)
      show tt Zi d 106 (99, [some (.inr (.inl 0)), some (.inl nr), some (.inl pn)], [], n25, D26, s27, p28, c29) _
      replace k35 : (s27 401) = (s0 401) + 10 := k35
      have b39 : 0 ≤ (s27 401) ∧ (s27 401) ≤ 262144 := hS27 401
      have b40 : 0 ≤ (s27 1601) ∧ (s27 1601) ≤ 255 := hS27 1601
      have b41 : 1 ≤ (s27 1602) ∧ (s27 1602) ≤ 8 := hS27 1602
      have e42 : s27 801 = (s0 801) := (f31 801 (by decide))
      have b43 : -2147483648 ≤ (s27 801) ∧ (s27 801) ≤ 2147483647 := hS27 801
      have e44 : s27 800 = (s0 800) := (f31 800 (by decide))
      have b45 : 0 ≤ (s27 800) ∧ (s27 800) ≤ 65535 := hS27 800
      have e46 : s27 100 = (s0 100) := (f31 100 (by decide))
      have b47 : 1 ≤ (s27 100) ∧ (s27 100) ≤ 64 := hS27 100
      have e48 : s27 101 = (s0 101) := (f31 101 (by decide))
      have b49 : 1 ≤ (s27 101) ∧ (s27 101) ≤ 64 := hS27 101
      have e50 : s27 102 = (s0 102) := (f31 102 (by decide))
      have b51 : 1 ≤ (s27 102) ∧ (s27 102) ≤ 3 := hS27 102
      have e52 : s27 103 = (s0 103) := (f31 103 (by decide))
      have b53 : 2 ≤ (s27 103) ∧ (s27 103) ≤ 16 := hS27 103
      have e54 : s27 1602 = (s0 1602) := (f31 1602 (by decide))
      have hx55 : zq Z (s27 800) (s27 801) (s27 802) (s27 803) (s27 804) (s27 805) (s27 806) (s27 807) (s27 808) (s27 809) := by rw [f31 800 (by decide), f31 801 (by decide), f31 802 (by decide), f31 803 (by decide), f31 804 (by decide), f31 805 (by decide), f31 806 (by decide), f31 807 (by decide), f31 808 (by decide), f31 809 (by decide)]; exact hz0
      have hsc : wrl (pSc pn nr W1) (s27 401) 0 8 (c29 (p28 400)) := by have h := k36; rw [show s27 1601 = 0 from (f31 1601 (by decide)).trans i2.1, show s27 1602 = 8 from (f31 1602 (by decide)).trans i2.2] at h; exact h
      have hep := wrl_et hsc
      refine tt_k 5 (S' := (108, [some (.inr (.inl 0)), some (.inl nr), some (.inl pn)], [.inl pn, .inr (.inl 1), .inr (.inl 12)], n25, D26, s27, p28, c29)) rfl ?_
      have e0 : s27 100 = s 100 := by omega
      have e1 : s27 101 = s 101 := by omega
      have b56 : -2147483648 ≤ (s27 802) ∧ (s27 802) ≤ 2147483647 := hS27 802
      have b57 : -2147483648 ≤ (s27 803) ∧ (s27 803) ≤ 2147483647 := hS27 803
      have b58 : -2147483648 ≤ (s27 804) ∧ (s27 804) ≤ 2147483647 := hS27 804
      have b59 : 0 ≤ (s27 805) ∧ (s27 805) ≤ 65535 := hS27 805
      have b60 : 1 ≤ (s27 806) ∧ (s27 806) ≤ 511 := hS27 806
      have b61 : 0 ≤ (s27 807) ∧ (s27 807) ≤ 65536 := hS27 807
      have b62 : 0 ≤ (s27 808) ∧ (s27 808) ≤ 30 := hS27 808
      have b63 : 0 ≤ (s27 809) ∧ (s27 809) ≤ 64 := hS27 809
      refine tt_cl (by omega) rfl (e_tellPlane (Zi := Zi) (q := q) (n := n25) (D := D26) (s := s27) (p := p28) (c := c29) (by omega) hz (by omega) FK38.1 hS27 hC29 hW30 Z (pSc pn nr W1) (E pn) pn (by omega) hc37 hx55 hq1 k36 (show 7 * (s27 401) - (s27 1602) + 500000 ≤ 1834990 by omega) (show pn < (s27 102) ∧ 1 ≤ (s27 100) by omega) (by rw [e0, e1, fk_k (k := 104) FK38 (by decide)]; exact fun yy h1 h2 xx h3 h4 => hq2 pn yy xx ⟨by omega, by omega⟩ ⟨h1, h2⟩ ⟨h3, h4⟩) (by rw [e0, e1]; exact fun yy h1 h2 xx h3 h4 => hq3 pn yy xx ⟨by omega, by omega⟩ ⟨h1, h2⟩ ⟨h3, h4⟩)) ?_
      rintro _ _ ⟨n64, D65, s66, p67, c68, rfl, rfl, hS66, hC68, hW69, f70, g71, xe72, kf73, k74, k75, k76, k77⟩
      have FK78 : fk p c n64 p67 c68 [400, 900, 901, 1203, 1204] := fk_tr FK38 kf73 (by decide)
      show tt Zi d 106 (111, [some (.inr (.inl 0)), some (.inl nr), some (.inl pn)], [], n64, D65, s66, p67, c68) _
      replace k75 : 7 * (s66 401) - (s66 1602) ≤ 7 * (s27 401) - (s27 1602) + 457600 := k75
      have b79 : 0 ≤ (s66 401) ∧ (s66 401) ≤ 262144 := hS66 401
      have b80 : 1 ≤ (s66 1602) ∧ (s66 1602) ≤ 8 := hS66 1602
      have b81 : 0 ≤ (s66 1601) ∧ (s66 1601) ≤ 255 := hS66 1601
      have e82 : s66 801 = (s27 801) := (f70 801 (by decide))
      have b83 : -2147483648 ≤ (s66 801) ∧ (s66 801) ≤ 2147483647 := hS66 801
      have e84 : s66 800 = (s27 800) := (f70 800 (by decide))
      have b85 : 0 ≤ (s66 800) ∧ (s66 800) ≤ 65535 := hS66 800
      have e86 : s66 100 = (s27 100) := (f70 100 (by decide))
      have b87 : 1 ≤ (s66 100) ∧ (s66 100) ≤ 64 := hS66 100
      have e88 : s66 101 = (s27 101) := (f70 101 (by decide))
      have b89 : 1 ≤ (s66 101) ∧ (s66 101) ≤ 64 := hS66 101
      have e90 : s66 102 = (s27 102) := (f70 102 (by decide))
      have b91 : 1 ≤ (s66 102) ∧ (s66 102) ≤ 3 := hS66 102
      have e92 : s66 103 = (s27 103) := (f70 103 (by decide))
      have b93 : 2 ≤ (s66 103) ∧ (s66 103) ≤ 16 := hS66 103
      have hx94 : zq Z (s66 800) (s66 801) (s66 802) (s66 803) (s66 804) (s66 805) (s66 806) (s66 807) (s66 808) (s66 809) := by rw [f70 800 (by decide), f70 801 (by decide), f70 802 (by decide), f70 803 (by decide), f70 804 (by decide), f70 805 (by decide), f70 806 (by decide), f70 807 (by decide), f70 808 (by decide), f70 809 (by decide)]; exact hx55
      have tw := k76
      rw [e0, e1] at tw
      have tk := k77
      rw [e0, e1] at tk
      refine tt_k 3 (S' := (118, [some (.inr (.inl 0)), some (.inl nr), some (.inl pn)], [.inr (.inl 16)], n64, D65, s66, p67, c68)) rfl ?_
      refine tt_cl (by omega) rfl (e_finish (Zi := Zi) (q := q) (n := n64) (D := D65) (s := s66) (p := p67) (c := c68) (by omega) hz (by omega) FK78.1 hS66 hC68 hW69 (plX Z (s 100) (s 101) (E pn) 5000 0 0 (pSc pn nr W1, mB (Z 3024), 0, fun _ => 0)).1 (show (s66 401) ≤ 262143 by omega) k74 tw) ?_
      rintro _ _ ⟨n95, D96, s97, p98, c99, rfl, rfl, hS97, hC99, hW100, f101, g102, xe103, kf104, k105, k106, k107, k108⟩
      have FK109 : fk p c n95 p98 c99 [400, 900, 901, 1203, 1204] := fk_tr FK78 kf104 (by decide)
      show tt Zi d 106 (121, [some (.inr (.inl 0)), some (.inl nr), some (.inl pn)], [], n95, D96, s97, p98, c99) _
      replace k106 : (s97 401) ≤ (s66 401) + 1 := k106
      replace k107 : (s97 1602) = 8 := k107
      have b110 : 0 ≤ (s97 401) ∧ (s97 401) ≤ 262144 := hS97 401
      have b111 : 1 ≤ (s97 1602) ∧ (s97 1602) ≤ 8 := hS97 1602
      have b112 : 0 ≤ (s97 1601) ∧ (s97 1601) ≤ 255 := hS97 1601
      have e113 : s97 801 = (s66 801) := (f101 801 (by decide))
      have b114 : -2147483648 ≤ (s97 801) ∧ (s97 801) ≤ 2147483647 := hS97 801
      have e115 : s97 800 = (s66 800) := (f101 800 (by decide))
      have b116 : 0 ≤ (s97 800) ∧ (s97 800) ≤ 65535 := hS97 800
      have e117 : s97 100 = (s66 100) := (f101 100 (by decide))
      have b118 : 1 ≤ (s97 100) ∧ (s97 100) ≤ 64 := hS97 100
      have e119 : s97 101 = (s66 101) := (f101 101 (by decide))
      have b120 : 1 ≤ (s97 101) ∧ (s97 101) ≤ 64 := hS97 101
      have e121 : s97 102 = (s66 102) := (f101 102 (by decide))
      have b122 : 1 ≤ (s97 102) ∧ (s97 102) ≤ 3 := hS97 102
      have e123 : s97 103 = (s66 103) := (f101 103 (by decide))
      have b124 : 2 ≤ (s97 103) ∧ (s97 103) ≤ 16 := hS97 103
      have hx125 : zq Z (s97 800) (s97 801) (s97 802) (s97 803) (s97 804) (s97 805) (s97 806) (s97 807) (s97 808) (s97 809) := by rw [f101 800 (by decide), f101 801 (by decide), f101 802 (by decide), f101 803 (by decide), f101 804 (by decide), f101 805 (by decide), f101 806 (by decide), f101 807 (by decide), f101 808 (by decide), f101 809 (by decide)]; exact hx94
      have hx126 : mrk (plX Z (s 100) (s 101) (E pn) 5000 0 0 (pSc pn nr W1, mB (Z 3024), 0, fun _ => 0)).2.1 (c99 (p98 900)) := by rw [fk_k (k := 900) kf104 (by decide)]; exact tk
      refine tt_k 2 (S' := (82, [some (.inr (.inl 0)), some (.inl nr), some (.inl (pn + 1))], [], n95, D96, s97, p98, c99)) rfl ?_
      rw [show (s 102 - pn).toNat = (s 102 - (pn + 1)).toNat + 1 by omega, pPl] at hw2
      unfold pX0 at hw2
      rw [← hep] at hw2
      rw [show (s 102 - pn).toNat = (s 102 - (pn + 1)).toNat + 1 by omega, pKp] at hk2
      unfold pX0 at hk2
      rw [← hep] at hk2
      exact ih (pn + 1) n95 D96 s97 p98 c99 (by omega) hS97 (fr_tr (fr_tr (fr_tr hF0 f31 (by decide)) f70 (by decide)) f101 (by decide)) hC99 hW100 (frp_tr (frp_tr (frp_tr hP0 g32 (by decide)) g71 (by decide)) g102 (by decide)) (ext_tr (ext_tr (ext_tr hE0 xe33) xe72) xe103) FK109 k105 (show 7 * (s97 401) - (s97 1602) ≤ 1000 + 460000 * (pn + 1) by omega) (show (pn + 1) ≤ s 102 by omega) ⟨k108.2.1.symm.trans wFin_h.1, k108.2.2.1.symm.trans wFin_h.2⟩ ⟨_, _, k108, hw2, hx126, hk2⟩ (show (s 102 - (pn + 1)).toNat < m by omega)
set_option maxRecDepth 100000 in
set_option maxHeartbeats 4000000 in
theorem e_pack {g : Nat → Int} {Zi : Nat → Option (Nat × (Nat → Int))} {d n q : Nat} {D : Nat → Nat × Nat} {s : Nat → Int} {p : Nat → Nat} {c : Nat → Nat → Int} (hd : 6 ≤ d) (hz : zk Zi) (hq : q + 12 ≤ 400000) (hD : wd n p) (hS : bS s) (hC : bC D c) (hW : wp q g n D p s) (E : Int → Int → Int → Int) (nr : Int) (b_nr : -2147483648 ≤ nr ∧ nr ≤ 2147483647) (hp0 : cv E (s 100) (s 101) (s 102) (c (p 104))) (hp1 : s 1601 = 0 ∧ s 1602 = 8) : tt Zi d 106 (0, [some (.inr (.inl 0)), some (.inl nr), none], [], n, D, s, p, c) (fun R H => (∃ r : Int, R = .inl (some (.inl r)) ∧ (0 ≤ r ∧ r ≤ 262144) ∧ cXp (q + 1) g s p c [400, 900, 901, 1203, 1204] [401, 800, 801, 802, 803, 804, 805, 806, 807, 808, 809, 902, 1206, 1207, 1208, 1209, 1210, 1211, 1212, 1213, 1214, 1215, 1216, 1601, 1602] H ∧ ((VM (c 3 0) (c 3 1) (c 3 2) (c 3 3) (c 3 4) (s 103) nr) ∧ AB E (s 100) (s 101) (s 102) (zMo (c 3 0) (s 103))) ∧ (wrl (PK (c 3 0) (c 3 1) (c 3 2) (c 3 3) (c 3 4) (s 100) (s 101) (s 102) (s 103) nr E) (H.2.2.1 401) 0 8 (H.2.2.2.2 (H.2.2.2.1 400))) ∧ (H.2.2.1 1601 = 0 ∧ H.2.2.1 1602 = 8) ∧ (r = H.2.2.1 401) ∧ (mrk (pKp (ZM (c 3 0) (c 3 1) (c 3 2) (c 3 3) (c 3 4) (s 103) nr) (s 100) (s 101) E nr (s 102).toNat 0 (pMs (c 3 0) (c 3 1) (c 3 2) (c 3 3) (c 3 4) (pFm (s 100) (s 101) (s 102) (s 103) (pMk W00 216))) (kOf (c (p 900)))) (H.2.2.2.2 (H.2.2.2.1 900)))) ∨ (R = .inr 11 ∧ cXp (q + 1) g s p c [] [800, 801, 802, 803, 804, 805, 806, 807, 808, 809] H ∧ ¬ ((VM (c 3 0) (c 3 1) (c 3 2) (c 3 3) (c 3 4) (s 103) nr) ∧ AB E (s 100) (s 101) (s 102) (zMo (c 3 0) (s 103))))) := by
  have hwo : wo s := wo_of hS hW
  refine tt_k 8 (S' := (16, [some (.inr (.inl 0)), some (.inl nr), none], [.inl nr, .inl (s 103), .inr (.inl 3), .inr (.inl 8)], n, D, s, p, c)) rfl ?_
  have b1 : 2 ≤ (s 103) ∧ (s 103) ≤ 16 := hS 103
  refine tt_cl (by omega) rfl (e_settle3 (Zi := Zi) (q := q) (n := n) (D := D) (s := s) (p := p) (c := c) (by omega) hz (by omega) hD hS hC hW (s 103) nr (by omega) (by omega)) ?_
  rintro _ _ ⟨s2, r3, rfl, rfl, hS2, hW4, f5, b6, k7⟩
  have hc8 : wo s2 := wo_fr f5 (by decide) hwo
  show tt Zi d 106 (19, [some (.inr (.inl 0)), some (.inl nr), none], [.inl r3], n, D, s2, p, c) _
  have b9 : 0 ≤ (s2 800) ∧ (s2 800) ≤ 65535 := hS2 800
  have b10 : -2147483648 ≤ (s2 801) ∧ (s2 801) ≤ 2147483647 := hS2 801
  have b11 : -2147483648 ≤ (s2 802) ∧ (s2 802) ≤ 2147483647 := hS2 802
  have b12 : -2147483648 ≤ (s2 803) ∧ (s2 803) ≤ 2147483647 := hS2 803
  have b13 : -2147483648 ≤ (s2 804) ∧ (s2 804) ≤ 2147483647 := hS2 804
  have b14 : 0 ≤ (s2 805) ∧ (s2 805) ≤ 65535 := hS2 805
  have b15 : 1 ≤ (s2 806) ∧ (s2 806) ≤ 511 := hS2 806
  have b16 : 0 ≤ (s2 807) ∧ (s2 807) ≤ 65536 := hS2 807
  have b17 : 0 ≤ (s2 808) ∧ (s2 808) ≤ 30 := hS2 808
  have b18 : 0 ≤ (s2 809) ∧ (s2 809) ≤ 64 := hS2 809
  have e19 : s2 100 = (s 100) := (f5 100 (by decide))
  have b20 : 1 ≤ (s2 100) ∧ (s2 100) ≤ 64 := hS2 100
  have b21 : 1 ≤ (s 100) ∧ (s 100) ≤ 64 := hS 100
  have e22 : s2 101 = (s 101) := (f5 101 (by decide))
  have b23 : 1 ≤ (s2 101) ∧ (s2 101) ≤ 64 := hS2 101
  have b24 : 1 ≤ (s 101) ∧ (s 101) ≤ 64 := hS 101
  have e25 : s2 102 = (s 102) := (f5 102 (by decide))
  have b26 : 1 ≤ (s2 102) ∧ (s2 102) ≤ 3 := hS2 102
  have b27 : 1 ≤ (s 102) ∧ (s 102) ≤ 3 := hS 102
  have e28 : s2 103 = (s 103) := (f5 103 (by decide))
  have b29 : 2 ≤ (s2 103) ∧ (s2 103) ≤ 16 := hS2 103
  have e30 : s2 401 = (s 401) := (f5 401 (by decide))
  have b31 : 0 ≤ (s2 401) ∧ (s2 401) ≤ 262144 := hS2 401
  have b32 : 0 ≤ (s 401) ∧ (s 401) ≤ 262144 := hS 401
  have e33 : s2 1602 = (s 1602) := (f5 1602 (by decide))
  have b34 : 1 ≤ (s2 1602) ∧ (s2 1602) ≤ 8 := hS2 1602
  have b35 : 1 ≤ (s 1602) ∧ (s 1602) ≤ 8 := hS 1602
  have hset0 : r3 = 0 → ¬ (VM (c 3 0) (c 3 1) (c 3 2) (c 3 3) (c 3 4) (s 103) nr) := fun h => (k7).elim (fun ⟨h1, _⟩ => by omega) (fun ⟨_, h2⟩ => by exact h2)
  have hset1 : r3 ≠ 0 → (VM (c 3 0) (c 3 1) (c 3 2) (c 3 3) (c 3 4) (s 103) nr) ∧ zq (ZM (c 3 0) (c 3 1) (c 3 2) (c 3 3) (c 3 4) (s 103) nr) (s2 800) (s2 801) (s2 802) (s2 803) (s2 804) (s2 805) (s2 806) (s2 807) (s2 808) (s2 809) := fun h => (k7).elim (fun ⟨_, h2⟩ => by exact h2) (fun ⟨h1, _⟩ => by exact absurd h1 h)
  clear k7
  refine tz_eq (x := r3) rfl rfl (by omega) (fun h36 => ?_) (fun h36 => ?_)
  · show tt Zi d 106 (39, [some (.inr (.inl 0)), some (.inl nr), none], [], n, D, s2, p, c) _
    have hn37 := wp_n hW4 (by omega)
    exact tt_thr (q := (11, 923)) rfl rfl (by decide) (by decide) (by omega) (by omega) (Or.inr ⟨rfl, cXp_mono (q := q + 1) ⟨⟨hS2, bC_x hC (hW4).dz (by decide), wp_x hW4, fk_x (fk_rf hD), (show fr s s2 [800, 801, 802, 803, 804, 805, 806, 807, 808, 809] from (fr_tr fr_rf f5 (by decide)))⟩, ((frp_rf : frp p p [104, 400, 600, 900, 901, 1203, 1204, 1205, 2103, 2104, 2105, 2504, 2704]) 8 (by decide))⟩ (by omega), by first | exact fun h => hset0 (by omega) h.1 | exact fun h => hab1 (by omega) h.2⟩)
  · show tt Zi d 106 (22, [some (.inr (.inl 0)), some (.inl nr), none], [], n, D, s2, p, c) _
    obtain ⟨hVM, hzq⟩ := hset1 (by omega)
    have hmo : s2 800 = zMo (c 3 0) (s 103) := hzq.1
    refine tt_k 5 (S' := (33, [some (.inr (.inl 0)), some (.inl nr), none], [.inl (s2 800), .inr (.inl 1)], n, D, s2, p, c)) rfl ?_
    refine tt_cl (by omega) rfl (e_hasAbove1 (Zi := Zi) (q := q) (n := n) (D := D) (s := s2) (p := p) (c := c) (by omega) hz (by omega) hD hS2 hC hW4 (s2 800) (by omega)) ?_
    rintro _ _ ⟨r38, rfl, rfl, b39, k40⟩
    show tt Zi d 106 (36, [some (.inr (.inl 0)), some (.inl nr), none], [.inl r38], n, D, s2, p, c) _
    have e0 : s2 100 = s 100 := by omega
    have e1 : s2 101 = s 101 := by omega
    have e2 : s2 102 = s 102 := by omega
    rw [e0, e1, e2, hmo] at k40
    have hab0 : r38 = 0 → AB E (s 100) (s 101) (s 102) (zMo (c 3 0) (s 103)) := fun h => (k40).elim (fun ⟨_, h2⟩ => by exact AB_c hp0 (by omega) (by omega) (by omega) h2) (fun ⟨h1, _⟩ => by omega)
    have hab1 : r38 ≠ 0 → ¬ AB E (s 100) (s 101) (s 102) (zMo (c 3 0) (s 103)) := fun h => (k40).elim (fun ⟨h1, _⟩ => by exact absurd h1 h) (fun ⟨_, h2⟩ => by exact AB_n hp0 (by omega) (by omega) h2)
    clear k40
    refine tz_eq (x := r38) rfl rfl (by omega) (fun h41 => ?_) (fun h41 => ?_)
    · show tt Zi d 106 (47, [some (.inr (.inl 0)), some (.inl nr), none], [], n, D, s2, p, c) _
      have hAB := hab0 (by omega)
      have hmv : mv (ZM (c 3 0) (c 3 1) (c 3 2) (c 3 3) (c 3 4) (s 103) nr) := VM_mv (hC 3 0) (by omega) hVM
      have hEB : ∀ a y x : Int, (0 ≤ a ∧ a < s 102) → (0 ≤ y ∧ y < s 101) → (0 ≤ x ∧ x < s 100) → 0 ≤ E a y x ∧ E a y x ≤ (ZM (c 3 0) (c 3 1) (c 3 2) (c 3 3) (c 3 4) (s 103) nr) 3017 := fun a y x h1 h2 h3 => ⟨by rw [← hp0 a y x h1 h2 h3]; exact sm_nn hW hC, hAB a y x h1 h2 h3⟩
      refine tt_k 4 (S' := (55, [some (.inr (.inl 0)), some (.inl nr), none], [], n, D, (us s2 401 0), p, c)) rfl ?_
      have hW0 : wrl W00 ((us s2 401 0) 401) ((us s2 401 0) 1601) ((us s2 401 0) 1602) (c (p 400)) := ⟨rfl, Eq.symm ((f5 1601 (by decide)).trans hp1.1), Eq.symm ((f5 1602 (by decide)).trans hp1.2), fun i hi => absurd hi (by show ¬ (i : Int) < 0; omega)⟩
      refine tt_k 3 (S' := (62, [some (.inr (.inl 0)), some (.inl nr), none], [.inl 216, .inr (.inl 4)], n, D, (us s2 401 0), p, c)) rfl ?_
      have b42 : 0 ≤ (s2 1601) ∧ (s2 1601) ≤ 255 := hS2 1601
      refine tt_cl (by omega) rfl (e_addMark4 (Zi := Zi) (q := q) (n := n) (D := D) (s := (us s2 401 0)) (p := p) (c := c) (by omega) hz (by omega) hD (bS_us hS2 (show 0 ≤ 0 ∧ 0 ≤ 262144 by omega)) hC (wp_c4 hW4 (show 0 ≤ (ln D (p 400) : Int) by omega)) W00 216 (by omega) (show 0 ≤ 262142 by omega) hW0) ?_
      rintro _ _ ⟨n43, D44, s45, p46, c47, rfl, rfl, hS45, hC47, hW48, f49, g50, xe51, kf52, k53, k54⟩
      have hc55 : wo s45 := wo_fr f49 (by decide) (wo_us (by decide) hc8)
      have FK56 : fk p c n43 p46 c47 [400, 900, 901, 1203, 1204] := fk_tr (fk_rf hD) kf52 (by decide)
      show tt Zi d 106 (65, [some (.inr (.inl 0)), some (.inl nr), none], [], n43, D44, s45, p46, c47) _
      replace k53 : (s45 401) = 0 + 2 := k53
      have b57 : 0 ≤ (s45 401) ∧ (s45 401) ≤ 262144 := hS45 401
      have b58 : 0 ≤ (s45 1601) ∧ (s45 1601) ≤ 255 := hS45 1601
      have b59 : 1 ≤ (s45 1602) ∧ (s45 1602) ≤ 8 := hS45 1602
      have e60 : s45 801 = (s2 801) := (f49 801 (by decide))
      have b61 : -2147483648 ≤ (s45 801) ∧ (s45 801) ≤ 2147483647 := hS45 801
      have e62 : s45 800 = (s2 800) := (f49 800 (by decide))
      have b63 : 0 ≤ (s45 800) ∧ (s45 800) ≤ 65535 := hS45 800
      have e64 : s45 100 = (s2 100) := (f49 100 (by decide))
      have b65 : 1 ≤ (s45 100) ∧ (s45 100) ≤ 64 := hS45 100
      have e66 : s45 101 = (s2 101) := (f49 101 (by decide))
      have b67 : 1 ≤ (s45 101) ∧ (s45 101) ≤ 64 := hS45 101
      have e68 : s45 102 = (s2 102) := (f49 102 (by decide))
      have b69 : 1 ≤ (s45 102) ∧ (s45 102) ≤ 3 := hS45 102
      have e70 : s45 103 = (s2 103) := (f49 103 (by decide))
      have b71 : 2 ≤ (s45 103) ∧ (s45 103) ≤ 16 := hS45 103
      have e72 : s45 1602 = (s2 1602) := (f49 1602 (by decide))
      have hx73 : mrk (kOf (c (p 900))) (c47 (p46 900)) := by rw [fk_k (k := 900) kf52 (by decide)]; exact (mrk_of (f := c (p 900)))
      have hx74 : zq (ZM (c 3 0) (c 3 1) (c 3 2) (c 3 3) (c 3 4) (s 103) nr) (s45 800) (s45 801) (s45 802) (s45 803) (s45 804) (s45 805) (s45 806) (s45 807) (s45 808) (s45 809) := by rw [f49 800 (by decide), f49 801 (by decide), f49 802 (by decide), f49 803 (by decide), f49 804 (by decide), f49 805 (by decide), f49 806 (by decide), f49 807 (by decide), f49 808 (by decide), f49 809 (by decide)]; exact hzq
      refine tt_k 1 (S' := (66, [some (.inr (.inl 0)), some (.inl nr), none], [.inr (.inl 0)], n43, D44, s45, p46, c47)) rfl ?_
      refine tt_cl (by omega) rfl (e_writeFrame (Zi := Zi) (q := q) (n := n43) (D := D44) (s := s45) (p := p46) (c := c47) (by omega) hz (by omega) FK56.1 hS45 hC47 hW48 (wAdd (wAdd W00 255) 216) (show (s45 401) ≤ 200100 by omega) k54) ?_
      rintro _ _ ⟨n75, D76, s77, p78, c79, rfl, rfl, hS77, hC79, hW80, f81, g82, xe83, kf84, k85, k86⟩
      have hc87 : wo s77 := wo_fr f81 (by decide) hc55
      have FK88 : fk p c n75 p78 c79 [400, 900, 901, 1203, 1204] := fk_tr FK56 kf84 (by decide)
      show tt Zi d 106 (69, [some (.inr (.inl 0)), some (.inl nr), none], [], n75, D76, s77, p78, c79) _
      replace k85 : (s77 401) = (s45 401) + 10 + 3 * (s45 102) := k85
      have b89 : 0 ≤ (s77 401) ∧ (s77 401) ≤ 262144 := hS77 401
      have b90 : 0 ≤ (s77 1601) ∧ (s77 1601) ≤ 255 := hS77 1601
      have b91 : 1 ≤ (s77 1602) ∧ (s77 1602) ≤ 8 := hS77 1602
      have e92 : s77 801 = (s45 801) := (f81 801 (by decide))
      have b93 : -2147483648 ≤ (s77 801) ∧ (s77 801) ≤ 2147483647 := hS77 801
      have e94 : s77 800 = (s45 800) := (f81 800 (by decide))
      have b95 : 0 ≤ (s77 800) ∧ (s77 800) ≤ 65535 := hS77 800
      have e96 : s77 100 = (s45 100) := (f81 100 (by decide))
      have b97 : 1 ≤ (s77 100) ∧ (s77 100) ≤ 64 := hS77 100
      have e98 : s77 101 = (s45 101) := (f81 101 (by decide))
      have b99 : 1 ≤ (s77 101) ∧ (s77 101) ≤ 64 := hS77 101
      have e100 : s77 102 = (s45 102) := (f81 102 (by decide))
      have b101 : 1 ≤ (s77 102) ∧ (s77 102) ≤ 3 := hS77 102
      have e102 : s77 103 = (s45 103) := (f81 103 (by decide))
      have b103 : 2 ≤ (s77 103) ∧ (s77 103) ≤ 16 := hS77 103
      have e104 : s77 1602 = (s45 1602) := (f81 1602 (by decide))
      have hx105 : mrk (kOf (c (p 900))) (c79 (p78 900)) := by rw [fk_k (k := 900) kf84 (by decide)]; exact hx73
      have hx106 : zq (ZM (c 3 0) (c 3 1) (c 3 2) (c 3 3) (c 3 4) (s 103) nr) (s77 800) (s77 801) (s77 802) (s77 803) (s77 804) (s77 805) (s77 806) (s77 807) (s77 808) (s77 809) := by rw [f81 800 (by decide), f81 801 (by decide), f81 802 (by decide), f81 803 (by decide), f81 804 (by decide), f81 805 (by decide), f81 806 (by decide), f81 807 (by decide), f81 808 (by decide), f81 809 (by decide)]; exact hx74
      have twf := k86
      rw [show s45 100 = s 100 by omega, show s45 101 = s 101 by omega, show s45 102 = s 102 by omega, show s45 103 = s 103 by omega] at twf
      refine tt_k 1 (S' := (70, [some (.inr (.inl 0)), some (.inl nr), none], [.inr (.inl 0)], n75, D76, s77, p78, c79)) rfl ?_
      refine tt_cl (by omega) rfl (e_hasChosen (Zi := Zi) (q := q) (n := n75) (D := D76) (s := s77) (p := p78) (c := c79) (by omega) hz (by omega) FK88.1 hS77 hC79 hW80 ) ?_
      rintro _ _ ⟨r107, rfl, rfl, b108, k109⟩
      show tt Zi d 106 (73, [some (.inr (.inl 0)), some (.inl nr), none], [.inl r107], n75, D76, s77, p78, c79) _
      rw [show c79 3 = c 3 from fk_c (k := 3) FK88 (by decide)] at k109
      have hch0 : r107 = 0 → (c 3 0 = 0 ∧ c 3 1 = 0 ∧ c 3 2 = 0 ∧ c 3 3 = 0 ∧ c 3 4 = 0) := fun h => (k109).elim (fun ⟨_, h2⟩ => by exact h2) (fun ⟨h1, _⟩ => by omega)
      have hch1 : r107 ≠ 0 → ¬ (c 3 0 = 0 ∧ c 3 1 = 0 ∧ c 3 2 = 0 ∧ c 3 3 = 0 ∧ c 3 4 = 0) := fun h => (k109).elim (fun ⟨h1, _⟩ => by exact absurd h1 h) (fun ⟨_, h2⟩ => by exact h2)
      clear k109
      refine tz_eq (x := r107) rfl rfl (by omega) (fun h110 => ?_) (fun h110 => ?_)
      · show tt Zi d 106 (80, [some (.inr (.inl 0)), some (.inl nr), none], [], n75, D76, s77, p78, c79) _
        have hch := hch0 (by omega)
        refine tt_k 2 (S' := (82, [some (.inr (.inl 0)), some (.inl nr), some (.inl 0)], [], n75, D76, s77, p78, c79)) rfl ?_
        have e0 : s77 100 = s 100 := by omega
        have e1 : s77 101 = s 101 := by omega
        have e2 : s77 102 = s 102 := by omega
        have hms : wrl (pMs (c 3 0) (c 3 1) (c 3 2) (c 3 3) (c 3 4) (pFm (s 100) (s 101) (s 102) (s 103) (pMk W00 216))) (s77 401) (s77 1601) (s77 1602) (c79 (p78 400)) := by unfold pMs; rw [if_pos hch]; exact twf
        have h16 : s77 1601 = 0 ∧ s77 1602 = 8 := ⟨((f81 1601 (by decide)).trans ((f49 1601 (by decide)).trans ((f5 1601 (by decide)).trans hp1.1))), ((f81 1602 (by decide)).trans ((f49 1602 (by decide)).trans ((f5 1602 (by decide)).trans hp1.2)))⟩
        have b111 : -2147483648 ≤ (s77 802) ∧ (s77 802) ≤ 2147483647 := hS77 802
        have b112 : -2147483648 ≤ (s77 803) ∧ (s77 803) ≤ 2147483647 := hS77 803
        have b113 : -2147483648 ≤ (s77 804) ∧ (s77 804) ≤ 2147483647 := hS77 804
        have b114 : 0 ≤ (s77 805) ∧ (s77 805) ≤ 65535 := hS77 805
        have b115 : 1 ≤ (s77 806) ∧ (s77 806) ≤ 511 := hS77 806
        have b116 : 0 ≤ (s77 807) ∧ (s77 807) ≤ 65536 := hS77 807
        have b117 : 0 ≤ (s77 808) ∧ (s77 808) ≤ 30 := hS77 808
        have b118 : 0 ≤ (s77 809) ∧ (s77 809) ≤ 64 := hS77 809
        refine e_pack_L82 (Zi := Zi) (q := q) (n := n75) (D := D76) (s := s77) (p := p78) (c := c79) hd hz (by omega) FK88.1 hS77 hC79 hW80 (ZM (c 3 0) (c 3 1) (c 3 2) (c 3 3) (c 3 4) (s 103) nr) E (pPl (ZM (c 3 0) (c 3 1) (c 3 2) (c 3 3) (c 3 4) (s 103) nr) (s 100) (s 101) E nr (s 102).toNat 0 (pMs (c 3 0) (c 3 1) (c 3 2) (c 3 3) (c 3 4) (pFm (s 100) (s 101) (s 102) (s 103) (pMk W00 216)))) (pKp (ZM (c 3 0) (c 3 1) (c 3 2) (c 3 3) (c 3 4) (s 103) nr) (s 100) (s 101) E nr (s 102).toNat 0 (pMs (c 3 0) (c 3 1) (c 3 2) (c 3 3) (c 3 4) (pFm (s 100) (s 101) (s 102) (s 103) (pMk W00 216))) (kOf (c (p 900)))) nr (by omega) hx106 hmv (by rw [e0, e1, e2, fk_k (k := 104) FK88 (by decide)]; exact hp0) (by rw [e0, e1, e2]; exact hEB) (show 7 * (s77 401) - (s77 1602) ≤ 1000 by omega)  ?_ _ 0 n75 D76 s77 p78 c79 (by omega) hS77 fr_rf hC79 hW80 frp_rf ext_rf (fk_rf FK88.1) hc87 (show 7 * (s77 401) - (s77 1602) ≤ 1000 + 460000 * 0 by omega) (show 0 ≤ (s77 102) by omega) h16 ⟨_, _, hms, by rw [Int.sub_zero, e0, e1, e2], hx105, by rw [Int.sub_zero, e0, e1, e2]⟩ (Nat.lt_succ_self _)
        intro x119 n120 D121 s122 p123 c124 b125 hS122 f126 hC124 hW127 g128 xe129 kf130 hc131 i132 i133 i134 i135 hx136
        show tt Zi d 106 (127, [some (.inr (.inl 0)), some (.inl nr), some (.inl x119)], [], n120, D121, s122, p123, c124) _
        have FK137 : fk p c n120 p123 c124 [400, 900, 901, 1203, 1204] := fk_tr FK88 kf130 (by decide)
        replace i132 : 7 * (s122 401) - (s122 1602) ≤ 1000 + 460000 * x119 := i132
        have b138 : 0 ≤ (s122 401) ∧ (s122 401) ≤ 262144 := hS122 401
        have b139 : 1 ≤ (s122 1602) ∧ (s122 1602) ≤ 8 := hS122 1602
        replace i133 : x119 ≤ (s77 102) := i133
        replace i134 : (s122 1601) = 0 ∧ (s122 1602) = 8 := i134
        have b140 : 0 ≤ (s122 1601) ∧ (s122 1601) ≤ 255 := hS122 1601
        replace hx136 : (s77 102) ≤ x119 := hx136
        have e141 : s122 801 = (s77 801) := (f126 801 (by decide))
        have b142 : -2147483648 ≤ (s122 801) ∧ (s122 801) ≤ 2147483647 := hS122 801
        have e143 : s122 800 = (s77 800) := (f126 800 (by decide))
        have b144 : 0 ≤ (s122 800) ∧ (s122 800) ≤ 65535 := hS122 800
        have e145 : s122 100 = (s77 100) := (f126 100 (by decide))
        have b146 : 1 ≤ (s122 100) ∧ (s122 100) ≤ 64 := hS122 100
        have e147 : s122 101 = (s77 101) := (f126 101 (by decide))
        have b148 : 1 ≤ (s122 101) ∧ (s122 101) ≤ 64 := hS122 101
        have e149 : s122 102 = (s77 102) := (f126 102 (by decide))
        have b150 : 1 ≤ (s122 102) ∧ (s122 102) ≤ 3 := hS122 102
        have e151 : s122 103 = (s77 103) := (f126 103 (by decide))
        have b152 : 2 ≤ (s122 103) ∧ (s122 103) ≤ 16 := hS122 103
        have hx153 : zq (ZM (c 3 0) (c 3 1) (c 3 2) (c 3 3) (c 3 4) (s 103) nr) (s122 800) (s122 801) (s122 802) (s122 803) (s122 804) (s122 805) (s122 806) (s122 807) (s122 808) (s122 809) := by rw [f126 800 (by decide), f126 801 (by decide), f126 802 (by decide), f126 803 (by decide), f126 804 (by decide), f126 805 (by decide), f126 806 (by decide), f126 807 (by decide), f126 808 (by decide), f126 809 (by decide)]; exact hx106
        obtain ⟨W9, K9, hw9, hw8, hk9, hk8⟩ := i135
        rw [show (s77 102 - x119).toNat = 0 by omega, pKp] at hk8
        rw [show (s77 102 - x119).toNat = 0 by omega, pPl] at hw8
        refine tt_k 3 (S' := (134, [some (.inr (.inl 0)), some (.inl nr), some (.inl x119)], [.inl 217, .inr (.inl 4)], n120, D121, s122, p123, c124)) rfl ?_
        refine tt_cl (by omega) rfl (e_addMark4 (Zi := Zi) (q := q) (n := n120) (D := D121) (s := s122) (p := p123) (c := c124) (by omega) hz (by omega) FK137.1 hS122 hC124 hW127 W9 217 (by omega) (show (s122 401) ≤ 262142 by omega) hw9) ?_
        rintro _ _ ⟨n154, D155, s156, p157, c158, rfl, rfl, hS156, hC158, hW159, f160, g161, xe162, kf163, k164, k165⟩
        have hc166 : wo s156 := wo_fr f160 (by decide) hc131
        have FK167 : fk p c n154 p157 c158 [400, 900, 901, 1203, 1204] := fk_tr FK137 kf163 (by decide)
        show tt Zi d 106 (137, [some (.inr (.inl 0)), some (.inl nr), some (.inl x119)], [], n154, D155, s156, p157, c158) _
        replace k164 : (s156 401) = (s122 401) + 2 := k164
        have b168 : 0 ≤ (s156 401) ∧ (s156 401) ≤ 262144 := hS156 401
        have b169 : 0 ≤ (s156 1601) ∧ (s156 1601) ≤ 255 := hS156 1601
        have b170 : 1 ≤ (s156 1602) ∧ (s156 1602) ≤ 8 := hS156 1602
        have e171 : s156 801 = (s122 801) := (f160 801 (by decide))
        have b172 : -2147483648 ≤ (s156 801) ∧ (s156 801) ≤ 2147483647 := hS156 801
        have e173 : s156 800 = (s122 800) := (f160 800 (by decide))
        have b174 : 0 ≤ (s156 800) ∧ (s156 800) ≤ 65535 := hS156 800
        have e175 : s156 100 = (s122 100) := (f160 100 (by decide))
        have b176 : 1 ≤ (s156 100) ∧ (s156 100) ≤ 64 := hS156 100
        have e177 : s156 101 = (s122 101) := (f160 101 (by decide))
        have b178 : 1 ≤ (s156 101) ∧ (s156 101) ≤ 64 := hS156 101
        have e179 : s156 102 = (s122 102) := (f160 102 (by decide))
        have b180 : 1 ≤ (s156 102) ∧ (s156 102) ≤ 3 := hS156 102
        have e181 : s156 103 = (s122 103) := (f160 103 (by decide))
        have b182 : 2 ≤ (s156 103) ∧ (s156 103) ≤ 16 := hS156 103
        have e183 : s156 1602 = (s122 1602) := (f160 1602 (by decide))
        have hx184 : zq (ZM (c 3 0) (c 3 1) (c 3 2) (c 3 3) (c 3 4) (s 103) nr) (s156 800) (s156 801) (s156 802) (s156 803) (s156 804) (s156 805) (s156 806) (s156 807) (s156 808) (s156 809) := by rw [f160 800 (by decide), f160 801 (by decide), f160 802 (by decide), f160 803 (by decide), f160 804 (by decide), f160 805 (by decide), f160 806 (by decide), f160 807 (by decide), f160 808 (by decide), f160 809 (by decide)]; exact hx153
        have hx185 : mrk K9 (c158 (p157 900)) := by rw [fk_k (k := 900) kf163 (by decide)]; exact hk9
        have h16z : s156 1601 = 0 ∧ s156 1602 = 8 := ⟨(f160 1601 (by decide)).trans i134.1, (f160 1602 (by decide)).trans i134.2⟩
        refine tt_k 3 (S' := (144, [some (.inr (.inl 0)), some (.inl nr), some (.inl x119)], [.inl (s156 401)], n154, D155, s156, p157, c158)) rfl ?_
        exact tt_rti rfl rfl (Or.inl ⟨(s156 401), rfl, by omega, ⟨cX_mono (q := q) (show cX q g s p c [400, 900, 901, 1203, 1204] [401, 800, 801, 802, 803, 804, 805, 806, 807, 808, 809, 902, 1206, 1207, 1208, 1209, 1210, 1211, 1212, 1213, 1214, 1215, 1216, 1601, 1602] (n154, D155, s156, p157, c158) from ⟨hS156, hC158, hW159, FK167, (show fr s s156 [401, 800, 801, 802, 803, 804, 805, 806, 807, 808, 809, 902, 1206, 1207, 1208, 1209, 1210, 1211, 1212, 1213, 1214, 1215, 1216, 1601, 1602] from (fr_tr (fr_tr (fr_tr (fr_tr (fr_us (by decide) (fr_tr fr_rf f5 (by decide))) f49 (by decide)) f81 (by decide)) f126 (by decide)) f160 (by decide)))⟩) (by omega), (((frp_tr (frp_tr (frp_tr (frp_tr frp_rf g50 (by decide)) g82 (by decide)) g128 (by decide)) g161 (by decide)) : frp p p157 [104, 400, 600, 900, 901, 1203, 1204, 1205, 2103, 2104, 2105, 2504, 2704]) 8 (by decide))⟩, by exact ⟨hVM, hAB⟩, by have h := k165; rw [hw8] at h; rw [h16z.1, h16z.2] at h; exact h, by exact h16z, by rfl, by have h := hx185; rw [hk8] at h; exact h⟩)
      · show tt Zi d 106 (76, [some (.inr (.inl 0)), some (.inl nr), none], [], n75, D76, s77, p78, c79) _
        have hch := hch1 (by omega)
        refine tt_k 1 (S' := (77, [some (.inr (.inl 0)), some (.inl nr), none], [.inr (.inl 0)], n75, D76, s77, p78, c79)) rfl ?_
        refine tt_cl (by omega) rfl (e_writeMeasures (Zi := Zi) (q := q) (n := n75) (D := D76) (s := s77) (p := p78) (c := c79) (by omega) hz (by omega) FK88.1 hS77 hC79 hW80 (pFm (s 100) (s 101) (s 102) (s 103) (wAdd (wAdd W00 255) 216)) (show (s77 401) ≤ 200100 by omega) twf) ?_
        rintro _ _ ⟨n186, D187, s188, p189, c190, rfl, rfl, hS188, hC190, hW191, f192, g193, xe194, kf195, k196, k197⟩
        have hc198 : wo s188 := wo_fr f192 (by decide) hc87
        have FK199 : fk p c n186 p189 c190 [400, 900, 901, 1203, 1204] := fk_tr FK88 kf195 (by decide)
        show tt Zi d 106 (80, [some (.inr (.inl 0)), some (.inl nr), none], [], n186, D187, s188, p189, c190) _
        replace k196 : (s188 401) = (s77 401) + 15 := k196
        have b200 : 0 ≤ (s188 401) ∧ (s188 401) ≤ 262144 := hS188 401
        have b201 : 0 ≤ (s188 1601) ∧ (s188 1601) ≤ 255 := hS188 1601
        have b202 : 1 ≤ (s188 1602) ∧ (s188 1602) ≤ 8 := hS188 1602
        have e203 : s188 801 = (s77 801) := (f192 801 (by decide))
        have b204 : -2147483648 ≤ (s188 801) ∧ (s188 801) ≤ 2147483647 := hS188 801
        have e205 : s188 800 = (s77 800) := (f192 800 (by decide))
        have b206 : 0 ≤ (s188 800) ∧ (s188 800) ≤ 65535 := hS188 800
        have e207 : s188 100 = (s77 100) := (f192 100 (by decide))
        have b208 : 1 ≤ (s188 100) ∧ (s188 100) ≤ 64 := hS188 100
        have e209 : s188 101 = (s77 101) := (f192 101 (by decide))
        have b210 : 1 ≤ (s188 101) ∧ (s188 101) ≤ 64 := hS188 101
        have e211 : s188 102 = (s77 102) := (f192 102 (by decide))
        have b212 : 1 ≤ (s188 102) ∧ (s188 102) ≤ 3 := hS188 102
        have e213 : s188 103 = (s77 103) := (f192 103 (by decide))
        have b214 : 2 ≤ (s188 103) ∧ (s188 103) ≤ 16 := hS188 103
        have e215 : s188 1602 = (s77 1602) := (f192 1602 (by decide))
        have hx216 : mrk (kOf (c (p 900))) (c190 (p189 900)) := by rw [fk_k (k := 900) kf195 (by decide)]; exact hx105
        have hx217 : zq (ZM (c 3 0) (c 3 1) (c 3 2) (c 3 3) (c 3 4) (s 103) nr) (s188 800) (s188 801) (s188 802) (s188 803) (s188 804) (s188 805) (s188 806) (s188 807) (s188 808) (s188 809) := by rw [f192 800 (by decide), f192 801 (by decide), f192 802 (by decide), f192 803 (by decide), f192 804 (by decide), f192 805 (by decide), f192 806 (by decide), f192 807 (by decide), f192 808 (by decide), f192 809 (by decide)]; exact hx106
        have twm := k197
        rw [show c79 3 = c 3 from fk_c (k := 3) FK88 (by decide)] at twm
        refine tt_k 2 (S' := (82, [some (.inr (.inl 0)), some (.inl nr), some (.inl 0)], [], n186, D187, s188, p189, c190)) rfl ?_
        have e0 : s188 100 = s 100 := by omega
        have e1 : s188 101 = s 101 := by omega
        have e2 : s188 102 = s 102 := by omega
        have hms : wrl (pMs (c 3 0) (c 3 1) (c 3 2) (c 3 3) (c 3 4) (pFm (s 100) (s 101) (s 102) (s 103) (pMk W00 216))) (s188 401) (s188 1601) (s188 1602) (c190 (p189 400)) := by unfold pMs; rw [if_neg hch]; exact twm
        have h16 : s188 1601 = 0 ∧ s188 1602 = 8 := ⟨((f192 1601 (by decide)).trans ((f81 1601 (by decide)).trans ((f49 1601 (by decide)).trans ((f5 1601 (by decide)).trans hp1.1)))), ((f192 1602 (by decide)).trans ((f81 1602 (by decide)).trans ((f49 1602 (by decide)).trans ((f5 1602 (by decide)).trans hp1.2))))⟩
        have b218 : -2147483648 ≤ (s188 802) ∧ (s188 802) ≤ 2147483647 := hS188 802
        have b219 : -2147483648 ≤ (s188 803) ∧ (s188 803) ≤ 2147483647 := hS188 803
        have b220 : -2147483648 ≤ (s188 804) ∧ (s188 804) ≤ 2147483647 := hS188 804
        have b221 : 0 ≤ (s188 805) ∧ (s188 805) ≤ 65535 := hS188 805
        have b222 : 1 ≤ (s188 806) ∧ (s188 806) ≤ 511 := hS188 806
        have b223 : 0 ≤ (s188 807) ∧ (s188 807) ≤ 65536 := hS188 807
        have b224 : 0 ≤ (s188 808) ∧ (s188 808) ≤ 30 := hS188 808
        have b225 : 0 ≤ (s188 809) ∧ (s188 809) ≤ 64 := hS188 809
        refine e_pack_L82 (Zi := Zi) (q := q) (n := n186) (D := D187) (s := s188) (p := p189) (c := c190) hd hz (by omega) FK199.1 hS188 hC190 hW191 (ZM (c 3 0) (c 3 1) (c 3 2) (c 3 3) (c 3 4) (s 103) nr) E (pPl (ZM (c 3 0) (c 3 1) (c 3 2) (c 3 3) (c 3 4) (s 103) nr) (s 100) (s 101) E nr (s 102).toNat 0 (pMs (c 3 0) (c 3 1) (c 3 2) (c 3 3) (c 3 4) (pFm (s 100) (s 101) (s 102) (s 103) (pMk W00 216)))) (pKp (ZM (c 3 0) (c 3 1) (c 3 2) (c 3 3) (c 3 4) (s 103) nr) (s 100) (s 101) E nr (s 102).toNat 0 (pMs (c 3 0) (c 3 1) (c 3 2) (c 3 3) (c 3 4) (pFm (s 100) (s 101) (s 102) (s 103) (pMk W00 216))) (kOf (c (p 900)))) nr (by omega) hx217 hmv (by rw [e0, e1, e2, fk_k (k := 104) FK199 (by decide)]; exact hp0) (by rw [e0, e1, e2]; exact hEB) (show 7 * (s188 401) - (s188 1602) ≤ 1000 by omega)  ?_ _ 0 n186 D187 s188 p189 c190 (by omega) hS188 fr_rf hC190 hW191 frp_rf ext_rf (fk_rf FK199.1) hc198 (show 7 * (s188 401) - (s188 1602) ≤ 1000 + 460000 * 0 by omega) (show 0 ≤ (s188 102) by omega) h16 ⟨_, _, hms, by rw [Int.sub_zero, e0, e1, e2], hx216, by rw [Int.sub_zero, e0, e1, e2]⟩ (Nat.lt_succ_self _)
        intro x226 n227 D228 s229 p230 c231 b232 hS229 f233 hC231 hW234 g235 xe236 kf237 hc238 i239 i240 i241 i242 hx243
        show tt Zi d 106 (127, [some (.inr (.inl 0)), some (.inl nr), some (.inl x226)], [], n227, D228, s229, p230, c231) _
        have FK244 : fk p c n227 p230 c231 [400, 900, 901, 1203, 1204] := fk_tr FK199 kf237 (by decide)
        replace i239 : 7 * (s229 401) - (s229 1602) ≤ 1000 + 460000 * x226 := i239
        have b245 : 0 ≤ (s229 401) ∧ (s229 401) ≤ 262144 := hS229 401
        have b246 : 1 ≤ (s229 1602) ∧ (s229 1602) ≤ 8 := hS229 1602
        replace i240 : x226 ≤ (s188 102) := i240
        replace i241 : (s229 1601) = 0 ∧ (s229 1602) = 8 := i241
        have b247 : 0 ≤ (s229 1601) ∧ (s229 1601) ≤ 255 := hS229 1601
        replace hx243 : (s188 102) ≤ x226 := hx243
        have e248 : s229 801 = (s188 801) := (f233 801 (by decide))
        have b249 : -2147483648 ≤ (s229 801) ∧ (s229 801) ≤ 2147483647 := hS229 801
        have e250 : s229 800 = (s188 800) := (f233 800 (by decide))
        have b251 : 0 ≤ (s229 800) ∧ (s229 800) ≤ 65535 := hS229 800
        have e252 : s229 100 = (s188 100) := (f233 100 (by decide))
        have b253 : 1 ≤ (s229 100) ∧ (s229 100) ≤ 64 := hS229 100
        have e254 : s229 101 = (s188 101) := (f233 101 (by decide))
        have b255 : 1 ≤ (s229 101) ∧ (s229 101) ≤ 64 := hS229 101
        have e256 : s229 102 = (s188 102) := (f233 102 (by decide))
        have b257 : 1 ≤ (s229 102) ∧ (s229 102) ≤ 3 := hS229 102
        have e258 : s229 103 = (s188 103) := (f233 103 (by decide))
        have b259 : 2 ≤ (s229 103) ∧ (s229 103) ≤ 16 := hS229 103
        have hx260 : zq (ZM (c 3 0) (c 3 1) (c 3 2) (c 3 3) (c 3 4) (s 103) nr) (s229 800) (s229 801) (s229 802) (s229 803) (s229 804) (s229 805) (s229 806) (s229 807) (s229 808) (s229 809) := by rw [f233 800 (by decide), f233 801 (by decide), f233 802 (by decide), f233 803 (by decide), f233 804 (by decide), f233 805 (by decide), f233 806 (by decide), f233 807 (by decide), f233 808 (by decide), f233 809 (by decide)]; exact hx217
        obtain ⟨W9, K9, hw9, hw8, hk9, hk8⟩ := i242
        rw [show (s188 102 - x226).toNat = 0 by omega, pKp] at hk8
        rw [show (s188 102 - x226).toNat = 0 by omega, pPl] at hw8
        refine tt_k 3 (S' := (134, [some (.inr (.inl 0)), some (.inl nr), some (.inl x226)], [.inl 217, .inr (.inl 4)], n227, D228, s229, p230, c231)) rfl ?_
        refine tt_cl (by omega) rfl (e_addMark4 (Zi := Zi) (q := q) (n := n227) (D := D228) (s := s229) (p := p230) (c := c231) (by omega) hz (by omega) FK244.1 hS229 hC231 hW234 W9 217 (by omega) (show (s229 401) ≤ 262142 by omega) hw9) ?_
        rintro _ _ ⟨n261, D262, s263, p264, c265, rfl, rfl, hS263, hC265, hW266, f267, g268, xe269, kf270, k271, k272⟩
        have hc273 : wo s263 := wo_fr f267 (by decide) hc238
        have FK274 : fk p c n261 p264 c265 [400, 900, 901, 1203, 1204] := fk_tr FK244 kf270 (by decide)
        show tt Zi d 106 (137, [some (.inr (.inl 0)), some (.inl nr), some (.inl x226)], [], n261, D262, s263, p264, c265) _
        replace k271 : (s263 401) = (s229 401) + 2 := k271
        have b275 : 0 ≤ (s263 401) ∧ (s263 401) ≤ 262144 := hS263 401
        have b276 : 0 ≤ (s263 1601) ∧ (s263 1601) ≤ 255 := hS263 1601
        have b277 : 1 ≤ (s263 1602) ∧ (s263 1602) ≤ 8 := hS263 1602
        have e278 : s263 801 = (s229 801) := (f267 801 (by decide))
        have b279 : -2147483648 ≤ (s263 801) ∧ (s263 801) ≤ 2147483647 := hS263 801
        have e280 : s263 800 = (s229 800) := (f267 800 (by decide))
        have b281 : 0 ≤ (s263 800) ∧ (s263 800) ≤ 65535 := hS263 800
        have e282 : s263 100 = (s229 100) := (f267 100 (by decide))
        have b283 : 1 ≤ (s263 100) ∧ (s263 100) ≤ 64 := hS263 100
        have e284 : s263 101 = (s229 101) := (f267 101 (by decide))
        have b285 : 1 ≤ (s263 101) ∧ (s263 101) ≤ 64 := hS263 101
        have e286 : s263 102 = (s229 102) := (f267 102 (by decide))
        have b287 : 1 ≤ (s263 102) ∧ (s263 102) ≤ 3 := hS263 102
        have e288 : s263 103 = (s229 103) := (f267 103 (by decide))
        have b289 : 2 ≤ (s263 103) ∧ (s263 103) ≤ 16 := hS263 103
        have e290 : s263 1602 = (s229 1602) := (f267 1602 (by decide))
        have hx291 : zq (ZM (c 3 0) (c 3 1) (c 3 2) (c 3 3) (c 3 4) (s 103) nr) (s263 800) (s263 801) (s263 802) (s263 803) (s263 804) (s263 805) (s263 806) (s263 807) (s263 808) (s263 809) := by rw [f267 800 (by decide), f267 801 (by decide), f267 802 (by decide), f267 803 (by decide), f267 804 (by decide), f267 805 (by decide), f267 806 (by decide), f267 807 (by decide), f267 808 (by decide), f267 809 (by decide)]; exact hx260
        have hx292 : mrk K9 (c265 (p264 900)) := by rw [fk_k (k := 900) kf270 (by decide)]; exact hk9
        have h16z : s263 1601 = 0 ∧ s263 1602 = 8 := ⟨(f267 1601 (by decide)).trans i241.1, (f267 1602 (by decide)).trans i241.2⟩
        refine tt_k 3 (S' := (144, [some (.inr (.inl 0)), some (.inl nr), some (.inl x226)], [.inl (s263 401)], n261, D262, s263, p264, c265)) rfl ?_
        exact tt_rti rfl rfl (Or.inl ⟨(s263 401), rfl, by omega, ⟨cX_mono (q := q) (show cX q g s p c [400, 900, 901, 1203, 1204] [401, 800, 801, 802, 803, 804, 805, 806, 807, 808, 809, 902, 1206, 1207, 1208, 1209, 1210, 1211, 1212, 1213, 1214, 1215, 1216, 1601, 1602] (n261, D262, s263, p264, c265) from ⟨hS263, hC265, hW266, FK274, (show fr s s263 [401, 800, 801, 802, 803, 804, 805, 806, 807, 808, 809, 902, 1206, 1207, 1208, 1209, 1210, 1211, 1212, 1213, 1214, 1215, 1216, 1601, 1602] from (fr_tr (fr_tr (fr_tr (fr_tr (fr_tr (fr_us (by decide) (fr_tr fr_rf f5 (by decide))) f49 (by decide)) f81 (by decide)) f192 (by decide)) f233 (by decide)) f267 (by decide)))⟩) (by omega), (((frp_tr (frp_tr (frp_tr (frp_tr (frp_tr frp_rf g50 (by decide)) g82 (by decide)) g193 (by decide)) g235 (by decide)) g268 (by decide)) : frp p p264 [104, 400, 600, 900, 901, 1203, 1204, 1205, 2103, 2104, 2105, 2504, 2704]) 8 (by decide))⟩, by exact ⟨hVM, hAB⟩, by have h := k272; rw [hw8] at h; rw [h16z.1, h16z.2] at h; exact h, by exact h16z, by rfl, by have h := hx292; rw [hk8] at h; exact h⟩)
    · show tt Zi d 106 (39, [some (.inr (.inl 0)), some (.inl nr), none], [], n, D, s2, p, c) _
      have hn293 := wp_n hW4 (by omega)
      exact tt_thr (q := (11, 923)) rfl rfl (by decide) (by decide) (by omega) (by omega) (Or.inr ⟨rfl, cXp_mono (q := q + 1) ⟨⟨hS2, bC_x hC (hW4).dz (by decide), wp_x hW4, fk_x (fk_rf hD), (show fr s s2 [800, 801, 802, 803, 804, 805, 806, 807, 808, 809] from (fr_tr fr_rf f5 (by decide)))⟩, ((frp_rf : frp p p [104, 400, 600, 900, 901, 1203, 1204, 1205, 2103, 2104, 2105, 2504, 2704]) 8 (by decide))⟩ (by omega), by first | exact fun h => hset0 (by omega) h.1 | exact fun h => hab1 (by omega) h.2⟩)
