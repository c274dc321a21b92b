/-! the class packs, exactly -/
theorem wFin_h {V : WT} : (wFin V).2.2.1 = 0 ∧ (wFin V).2.2.2 = 8 := by
  unfold wFin
  split <;> exact ⟨rfl, rfl⟩
theorem sm_nn {g : Nat → Int} {q n : Nat} {D : Nat → Nat × Nat} {p : Nat → Nat} {s : Nat → Int} {c : Nat → Nat → Int} {i : Nat} (h : wp q g n D p s) (hC : bC D c) : 0 ≤ c (p 104) i := by
  have h1 := hC (p 104) i
  rw [h.p1.2.1.1, h.p1.2.1.2] at h1
  exact h1.1
set_option maxRecDepth 100000 in
set_option maxHeartbeats 4000000 in
theorem e_pack_L82 {g : Nat → Int} {Zi : Nat → Option (Nat × (Nat → Int))} {d n q : Nat} {D : Nat → Nat × Nat} {s : Nat → Int} {p : Nat → Nat} {c : Nat → Nat → Int}  {Q : mi_Rs → mi_H → Prop} (hd : 6 ≤ d) (hz : zk Zi) (hq : q + 12 ≤ 400001) (hD : wd n p) (hS : bS s) (hC : bC D c) (hW : wp q g n D p s) (Z : Nat → Int) (E : Int → Int → Int → Int) (R : WT) (nr : Int) (b_nr : -2147483648 ≤ nr ∧ nr ≤ 2147483647) (hq0 : zq Z (s 800) (s 801) (s 802) (s 803) (s 804) (s 805) (s 806) (s 807) (s 808) (s 809)) (hq1 : mv Z) (hq2 : cv E (s 100) (s 101) (s 102) (c (p 104))) (hq3 : ∀ a y x : Int, (0 ≤ a ∧ a < s 102) → (0 ≤ y ∧ y < s 101) → (0 ≤ x ∧ x < s 100) → 0 ≤ E a y x ∧ E a y x ≤ Z 3017) (hq4 : 7 * s 401 - s 1602 ≤ 1000)
  (hK : ∀ (pn : Int) (n0 : Nat) (D0 : Nat → Nat × Nat) (s0 : Nat → Int) (p0 : Nat → Nat) (c0 : Nat → Nat → Int) (b_pn : 0 ≤ pn ∧ pn ≤ 3) (hS0 : bS s0) (hF0 : fr s s0 [401, 902, 1206, 1207, 1208, 1209, 1210, 1211, 1212, 1213, 1214, 1215, 1216, 1601, 1602]) (hC0 : bC D0 c0) (hW0 : wp q g n0 D0 p0 s0) (hP0 : frp p p0 [400, 900, 901, 1203, 1204, 1205]) (hE0 : ext n D n0 D0) (hK0 : fk p c n0 p0 c0 [400, 900, 901, 1203, 1204]) (hc_wo : wo s0) (i0 : 7 * s0 401 - s0 1602 ≤ 1000 + 460000 * pn) (i1 : pn ≤ s 102) (i2 : s0 1601 = 0 ∧ s0 1602 = 8) (i3 : ∃ W1, wrl W1 (s0 401) (s0 1601) (s0 1602) (c0 (p0 400)) ∧ pPl Z (s 100) (s 101) E nr (s 102 - pn).toNat pn W1 = R), (s 102 ≤ pn) → tt Zi d 106 (127, [some (.inr (.inl 0)), some (.inl nr), some (.inl pn)], [], n0, D0, s0, p0, c0) Q) :
  ∀ (m : Nat) (pn : Int) (n0 : Nat) (D0 : Nat → Nat × Nat) (s0 : Nat → Int) (p0 : Nat → Nat) (c0 : Nat → Nat → Int) (b_pn : 0 ≤ pn ∧ pn ≤ 3) (hS0 : bS s0) (hF0 : fr s s0 [401, 902, 1206, 1207, 1208, 1209, 1210, 1211, 1212, 1213, 1214, 1215, 1216, 1601, 1602]) (hC0 : bC D0 c0) (hW0 : wp q g n0 D0 p0 s0) (hP0 : frp p p0 [400, 900, 901, 1203, 1204, 1205]) (hE0 : ext n D n0 D0) (hK0 : fk p c n0 p0 c0 [400, 900, 901, 1203, 1204]) (hc_wo : wo s0) (i0 : 7 * s0 401 - s0 1602 ≤ 1000 + 460000 * pn) (i1 : pn ≤ s 102) (i2 : s0 1601 = 0 ∧ s0 1602 = 8) (i3 : ∃ W1, wrl W1 (s0 401) (s0 1601) (s0 1602) (c0 (p0 400)) ∧ pPl Z (s 100) (s 101) E nr (s 102 - pn).toNat pn W1 = R), (s 102 - pn).toNat < m → tt Zi d 106 (82, [some (.inr (.inl 0)), some (.inl nr), some (.inl pn)], [], n0, D0, s0, p0, c0) Q := by
  intro m
  induction m with
  | zero => intro pn n0 D0 s0 p0 c0 b_pn hS0 hF0 hC0 hW0 hP0 hE0 hK0 hc_wo i0 i1 i2 i3 hm; exact absurd hm (by omega)
  | succ m ih =>
    intro pn n0 D0 s0 p0 c0 b_pn hS0 hF0 hC0 hW0 hP0 hE0 hK0 hc_wo i0 i1 i2 i3 hm
    have e1 : s0 801 = s 801 := hF0 801 (by decide)
    have b2 : -2147483648 ≤ (s0 801) ∧ (s0 801) ≤ 2147483647 := hS0 801
    have b3 : -2147483648 ≤ (s 801) ∧ (s 801) ≤ 2147483647 := hS 801
    have e4 : s0 800 = s 800 := hF0 800 (by decide)
    have b5 : 0 ≤ (s0 800) ∧ (s0 800) ≤ 65535 := hS0 800
    have b6 : 0 ≤ (s 800) ∧ (s 800) ≤ 65535 := hS 800
    have e7 : s0 100 = s 100 := hF0 100 (by decide)
    have b8 : 1 ≤ (s0 100) ∧ (s0 100) ≤ 64 := hS0 100
    have b9 : 1 ≤ (s 100) ∧ (s 100) ≤ 64 := hS 100
    have e10 : s0 101 = s 101 := hF0 101 (by decide)
    have b11 : 1 ≤ (s0 101) ∧ (s0 101) ≤ 64 := hS0 101
    have b12 : 1 ≤ (s 101) ∧ (s 101) ≤ 64 := hS 101
    have e13 : s0 102 = s 102 := hF0 102 (by decide)
    have b14 : 1 ≤ (s0 102) ∧ (s0 102) ≤ 3 := hS0 102
    have b15 : 1 ≤ (s 102) ∧ (s 102) ≤ 3 := hS 102
    have e16 : s0 103 = s 103 := hF0 103 (by decide)
    have b17 : 2 ≤ (s0 103) ∧ (s0 103) ≤ 16 := hS0 103
    have b18 : 2 ≤ (s 103) ∧ (s 103) ≤ 16 := hS 103
    obtain ⟨W1, hw1, hw2⟩ := i3
    have hz0 : zq Z (s0 800) (s0 801) (s0 802) (s0 803) (s0 804) (s0 805) (s0 806) (s0 807) (s0 808) (s0 809) := by rw [hF0 800 (by decide), hF0 801 (by decide), hF0 802 (by decide), hF0 803 (by decide), hF0 804 (by decide), hF0 805 (by decide), hF0 806 (by decide), hF0 807 (by decide), hF0 808 (by decide), hF0 809 (by decide)]; exact hq0
    have b19 : 1 ≤ (s0 1602) ∧ (s0 1602) ≤ 8 := hS0 1602
    have b20 : 0 ≤ (s0 401) ∧ (s0 401) ≤ 262144 := hS0 401
    have b21 : 1 ≤ (s 1602) ∧ (s 1602) ≤ 8 := hS 1602
    have b22 : 0 ≤ (s 401) ∧ (s 401) ≤ 262144 := hS 401
    refine tt_k 4 (S' := (90, [some (.inr (.inl 0)), some (.inl nr), some (.inl pn)], [.inl (s0 102), .inl pn], n0, D0, s0, p0, c0)) rfl ?_
    refine tb_ge (x := pn) (y := (s0 102)) rfl rfl (by omega) (fun h23 => ?_) (fun h23 => ?_)
    · show tt Zi d 106 (127, [some (.inr (.inl 0)), some (.inl nr), some (.inl pn)], [], n0, D0, s0, p0, c0) _
      exact hK pn n0 D0 s0 p0 c0 (by omega) hS0 hF0 hC0 hW0 hP0 hE0 hK0 hc_wo (show 7 * (s0 401) - (s0 1602) ≤ 1000 + 460000 * pn by omega) (show pn ≤ s 102 by omega) i2 ⟨W1, hw1, hw2⟩ (by omega)
    · show tt Zi d 106 (93, [some (.inr (.inl 0)), some (.inl nr), some (.inl pn)], [], n0, D0, s0, p0, c0) _
      refine tt_k 3 (S' := (96, [some (.inr (.inl 0)), some (.inl nr), some (.inl pn)], [.inl nr, .inl pn, .inr (.inl 0)], n0, D0, s0, p0, c0)) rfl ?_
      have b24 : 0 ≤ (s0 1601) ∧ (s0 1601) ≤ 255 := hS0 1601
      refine tt_cl (by omega) rfl (e_writeScan (Zi := Zi) (q := q) (n := n0) (D := D0) (s := s0) (p := p0) (c := c0) (by omega) hz (by omega) hK0.1 hS0 hC0 hW0 W1 pn nr (by omega) (by omega) (show (s0 401) ≤ 200100 by omega) hw1) ?_
      rintro _ _ ⟨n25, D26, s27, p28, c29, rfl, rfl, hS27, hC29, hW30, f31, g32, xe33, kf34, k35, k36⟩
      have hc37 : wo s27 := wo_fr f31 (by decide) hc_wo
      have FK38 : fk p c n25 p28 c29 [400, 900, 901, 1203, 1204] := fk_tr hK0 kf34 (by decide)
      show tt Zi d 106 (99, [some (.inr (.inl 0)), some (.inl nr), some (.inl pn)], [], n25, D26, s27, p28, c29) _
      replace k35 : (s27 401) = (s0 401) + 10 := k35
      have b39 : 0 ≤ (s27 401) ∧ (s27 401) ≤ 262144 := hS27 401
      have b40 : 0 ≤ (s27 1601) ∧ (s27 1601) ≤ 255 := hS27 1601
      have b41 : 1 ≤ (s27 1602) ∧ (s27 1602) ≤ 8 := hS27 1602
      have e42 : s27 801 = (s0 801) := (f31 801 (by decide))
      have b43 : -2147483648 ≤ (s27 801) ∧ (s27 801) ≤ 2147483647 := hS27 801
      have e44 : s27 800 = (s0 800) := (f31 800 (by decide))
      have b45 : 0 ≤ (s27 800) ∧ (s27 800) ≤ 65535 := hS27 800
      have e46 : s27 100 = (s0 100) := (f31 100 (by decide))
      have b47 : 1 ≤ (s27 100) ∧ (s27 100) ≤ 64 := hS27 100
      have e48 : s27 101 = (s0 101) := (f31 101 (by decide))
      have b49 : 1 ≤ (s27 101) ∧ (s27 101) ≤ 64 := hS27 101
      have e50 : s27 102 = (s0 102) := (f31 102 (by decide))
      have b51 : 1 ≤ (s27 102) ∧ (s27 102) ≤ 3 := hS27 102
      have e52 : s27 103 = (s0 103) := (f31 103 (by decide))
      have b53 : 2 ≤ (s27 103) ∧ (s27 103) ≤ 16 := hS27 103
      have e54 : s27 1602 = (s0 1602) := (f31 1602 (by decide))
      have hx55 : zq Z (s27 800) (s27 801) (s27 802) (s27 803) (s27 804) (s27 805) (s27 806) (s27 807) (s27 808) (s27 809) := by rw [f31 800 (by decide), f31 801 (by decide), f31 802 (by decide), f31 803 (by decide), f31 804 (by decide), f31 805 (by decide), f31 806 (by decide), f31 807 (by decide), f31 808 (by decide), f31 809 (by decide)]; exact hz0
      have hsc : wrl (pSc pn nr W1) (s27 401) 0 8 (c29 (p28 400)) := by have h := k36; rw [show s27 1601 = 0 from (f31 1601 (by decide)).trans i2.1, show s27 1602 = 8 from (f31 1602 (by decide)).trans i2.2] at h; exact h
      have hep := wrl_et hsc
      refine tt_k 5 (S' := (108, [some (.inr (.inl 0)), some (.inl nr), some (.inl pn)], [.inl pn, .inr (.inl 1), .inr (.inl 12)], n25, D26, s27, p28, c29)) rfl ?_
      have e0 : s27 100 = s 100 := by omega
      have e1 : s27 101 = s 101 := by omega
      have b56 : -2147483648 ≤ (s27 802) ∧ (s27 802) ≤ 2147483647 := hS27 802
      have b57 : -2147483648 ≤ (s27 803) ∧ (s27 803) ≤ 2147483647 := hS27 803
      have b58 : -2147483648 ≤ (s27 804) ∧ (s27 804) ≤ 2147483647 := hS27 804
      have b59 : 0 ≤ (s27 805) ∧ (s27 805) ≤ 65535 := hS27 805
      have b60 : 1 ≤ (s27 806) ∧ (s27 806) ≤ 511 := hS27 806
      have b61 : 0 ≤ (s27 807) ∧ (s27 807) ≤ 65536 := hS27 807
      have b62 : 0 ≤ (s27 808) ∧ (s27 808) ≤ 30 := hS27 808
      have b63 : 0 ≤ (s27 809) ∧ (s27 809) ≤ 64 := hS27 809
      refine tt_cl (by omega) rfl (e_tellPlane (Zi := Zi) (q := q) (n := n25) (D := D26) (s := s27) (p := p28) (c := c29) (by omega) hz (by omega) FK38.1 hS27 hC29 hW30 Z (pSc pn nr W1) (E pn) pn (by omega) hc37 hx55 hq1 k36 (show 7 * (s27 401) - (s27 1602) + 500000 ≤ 1834990 by omega) (show pn < (s27 102) ∧ 1 ≤ (s27 100) by omega) (by rw [e0, e1, fk_k (k := 104) FK38 (by decide)]; exact fun yy h1 h2 xx h3 h4 => hq2 pn yy xx ⟨by omega, by omega⟩ ⟨h1, h2⟩ ⟨h3, h4⟩) (by rw [e0, e1]; exact fun yy h1 h2 xx h3 h4 => hq3 pn yy xx ⟨by omega, by omega⟩ ⟨h1, h2⟩ ⟨h3, h4⟩)) ?_
      rintro _ _ ⟨n64, D65, s66, p67, c68, rfl, rfl, hS66, hC68, hW69, f70, g71, xe72, kf73, k74, k75, k76, k77⟩
      have FK78 : fk p c n64 p67 c68 [400, 900, 901, 1203, 1204] := fk_tr FK38 kf73 (by decide)
      show tt Zi d 106 (111, [some (.inr (.inl 0)), some (.inl nr), some (.inl pn)], [], n64, D65, s66, p67, c68) _
      replace k75 : 7 * (s66 401) - (s66 1602) ≤ 7 * (s27 401) - (s27 1602) + 457600 := k75
      have b79 : 0 ≤ (s66 401) ∧ (s66 401) ≤ 262144 := hS66 401
      have b80 : 1 ≤ (s66 1602) ∧ (s66 1602) ≤ 8 := hS66 1602
      have b81 : 0 ≤ (s66 1601) ∧ (s66 1601) ≤ 255 := hS66 1601
      have e82 : s66 801 = (s27 801) := (f70 801 (by decide))
      have b83 : -2147483648 ≤ (s66 801) ∧ (s66 801) ≤ 2147483647 := hS66 801
      have e84 : s66 800 = (s27 800) := (f70 800 (by decide))
      have b85 : 0 ≤ (s66 800) ∧ (s66 800) ≤ 65535 := hS66 800
      have e86 : s66 100 = (s27 100) := (f70 100 (by decide))
      have b87 : 1 ≤ (s66 100) ∧ (s66 100) ≤ 64 := hS66 100
      have e88 : s66 101 = (s27 101) := (f70 101 (by decide))
      have b89 : 1 ≤ (s66 101) ∧ (s66 101) ≤ 64 := hS66 101
      have e90 : s66 102 = (s27 102) := (f70 102 (by decide))
      have b91 : 1 ≤ (s66 102) ∧ (s66 102) ≤ 3 := hS66 102
      have e92 : s66 103 = (s27 103) := (f70 103 (by decide))
      have b93 : 2 ≤ (s66 103) ∧ (s66 103) ≤ 16 := hS66 103
      have hx94 : zq Z (s66 800) (s66 801) (s66 802) (s66 803) (s66 804) (s66 805) (s66 806) (s66 807) (s66 808) (s66 809) := by rw [f70 800 (by decide), f70 801 (by decide), f70 802 (by decide), f70 803 (by decide), f70 804 (by decide), f70 805 (by decide), f70 806 (by decide), f70 807 (by decide), f70 808 (by decide), f70 809 (by decide)]; exact hx55
      have tw := k76
      rw [e0, e1] at tw
      refine tt_k 3 (S' := (118, [some (.inr (.inl 0)), some (.inl nr), some (.inl pn)], [.inr (.inl 16)], n64, D65, s66, p67, c68)) rfl ?_
      refine tt_cl (by omega) rfl (e_finish (Zi := Zi) (q := q) (n := n64) (D := D65) (s := s66) (p := p67) (c := c68) (by omega) hz (by omega) FK78.1 hS66 hC68 hW69 (plX Z (s 100) (s 101) (E pn) 5000 0 0 (pSc pn nr W1, mB (Z 3024), 0, fun _ => 0)).1 (show (s66 401) ≤ 262143 by omega) k74 tw) ?_
      rintro _ _ ⟨n95, D96, s97, p98, c99, rfl, rfl, hS97, hC99, hW100, f101, g102, xe103, kf104, k105, k106, k107, k108⟩
      have FK109 : fk p c n95 p98 c99 [400, 900, 901, 1203, 1204] := fk_tr FK78 kf104 (by decide)
      show tt Zi d 106 (121, [some (.inr (.inl 0)), some (.inl nr), some (.inl pn)], [], n95, D96, s97, p98, c99) _
      replace k106 : (s97 401) ≤ (s66 401) + 1 := k106
      replace k107 : (s97 1602) = 8 := k107
      have b110 : 0 ≤ (s97 401) ∧ (s97 401) ≤ 262144 := hS97 401
      have b111 : 1 ≤ (s97 1602) ∧ (s97 1602) ≤ 8 := hS97 1602
      have b112 : 0 ≤ (s97 1601) ∧ (s97 1601) ≤ 255 := hS97 1601
      have e113 : s97 801 = (s66 801) := (f101 801 (by decide))
      have b114 : -2147483648 ≤ (s97 801) ∧ (s97 801) ≤ 2147483647 := hS97 801
      have e115 : s97 800 = (s66 800) := (f101 800 (by decide))
      have b116 : 0 ≤ (s97 800) ∧ (s97 800) ≤ 65535 := hS97 800
      have e117 : s97 100 = (s66 100) := (f101 100 (by decide))
      have b118 : 1 ≤ (s97 100) ∧ (s97 100) ≤ 64 := hS97 100
      have e119 : s97 101 = (s66 101) := (f101 101 (by decide))
      have b120 : 1 ≤ (s97 101) ∧ (s97 101) ≤ 64 := hS97 101
      have e121 : s97 102 = (s66 102) := (f101 102 (by decide))
      have b122 : 1 ≤ (s97 102) ∧ (s97 102) ≤ 3 := hS97 102
      have e123 : s97 103 = (s66 103) := (f101 103 (by decide))
      have b124 : 2 ≤ (s97 103) ∧ (s97 103) ≤ 16 := hS97 103
      have hx125 : zq Z (s97 800) (s97 801) (s97 802) (s97 803) (s97 804) (s97 805) (s97 806) (s97 807) (s97 808) (s97 809) := by rw [f101 800 (by decide), f101 801 (by decide), f101 802 (by decide), f101 803 (by decide), f101 804 (by decide), f101 805 (by decide), f101 806 (by decide), f101 807 (by decide), f101 808 (by decide), f101 809 (by decide)]; exact hx94
      refine tt_k 2 (S' := (82, [some (.inr (.inl 0)), some (.inl nr), some (.inl (pn + 1))], [], n95, D96, s97, p98, c99)) rfl ?_
      rw [show (s 102 - pn).toNat = (s 102 - (pn + 1)).toNat + 1 by omega, pPl] at hw2
      unfold pX0 at hw2
      rw [← hep] at hw2
      exact ih (pn + 1) n95 D96 s97 p98 c99 (by omega) hS97 (fr_tr (fr_tr (fr_tr hF0 f31 (by decide)) f70 (by decide)) f101 (by decide)) hC99 hW100 (frp_tr (frp_tr (frp_tr hP0 g32 (by decide)) g71 (by decide)) g102 (by decide)) (ext_tr (ext_tr (ext_tr hE0 xe33) xe72) xe103) FK109 k105 (show 7 * (s97 401) - (s97 1602) ≤ 1000 + 460000 * (pn + 1) by omega) (show (pn + 1) ≤ s 102 by omega) ⟨k108.2.1.symm.trans wFin_h.1, k108.2.2.1.symm.trans wFin_h.2⟩ ⟨_, k108, hw2⟩ (show (s 102 - (pn + 1)).toNat < m by omega)
set_option maxRecDepth 100000 in
set_option maxHeartbeats 4000000 in
theorem e_pack {g : Nat → Int} {Zi : Nat → Option (Nat × (Nat → Int))} {d n q : Nat} {D : Nat → Nat × Nat} {s : Nat → Int} {p : Nat → Nat} {c : Nat → Nat → Int} (hd : 6 ≤ d) (hz : zk Zi) (hq : q + 12 ≤ 400000) (hD : wd n p) (hS : bS s) (hC : bC D c) (hW : wp q g n D p s) (E : Int → Int → Int → Int) (nr : Int) (b_nr : -2147483648 ≤ nr ∧ nr ≤ 2147483647) (hp0 : cv E (s 100) (s 101) (s 102) (c (p 104))) (hp1 : s 1601 = 0 ∧ s 1602 = 8) : tt Zi d 106 (0, [some (.inr (.inl 0)), some (.inl nr), none], [], n, D, s, p, c) (fun R H => (∃ r : Int, R = .inl (some (.inl r)) ∧ (0 ≤ r ∧ r ≤ 262144) ∧ cX (q + 1) g s p c [400, 900, 901, 1203, 1204] [401, 800, 801, 802, 803, 804, 805, 806, 807, 808, 809, 902, 1206, 1207, 1208, 1209, 1210, 1211, 1212, 1213, 1214, 1215, 1216, 1601, 1602] H ∧ ((VM (c 3 0) (c 3 1) (c 3 2) (c 3 3) (c 3 4) (s 103) nr) ∧ AB E (s 100) (s 101) (s 102) (zMo (c 3 0) (s 103))) ∧ (wrl (PK (c 3 0) (c 3 1) (c 3 2) (c 3 3) (c 3 4) (s 100) (s 101) (s 102) (s 103) nr E) (H.2.2.1 401) 0 8 (H.2.2.2.2 (H.2.2.2.1 400))) ∧ (H.2.2.1 1601 = 0 ∧ H.2.2.1 1602 = 8) ∧ (r = H.2.2.1 401)) ∨ (R = .inr 11 ∧ cX (q + 1) g s p c [] LXR H ∧ ¬ ((VM (c 3 0) (c 3 1) (c 3 2) (c 3 3) (c 3 4) (s 103) nr) ∧ AB E (s 100) (s 101) (s 102) (zMo (c 3 0) (s 103))))) := by
  have hwo : wo s := wo_of hS hW
  refine tt_k 8 (S' := (16, [some (.inr (.inl 0)), some (.inl nr), none], [.inl nr, .inl (s 103), .inr (.inl 3), .inr (.inl 8)], n, D, s, p, c)) rfl ?_
  have b1 : 2 ≤ (s 103) ∧ (s 103) ≤ 16 := hS 103
  refine tt_cl (by omega) rfl (e_settle3 (Zi := Zi) (q := q) (n := n) (D := D) (s := s) (p := p) (c := c) (by omega) hz (by omega) hD hS hC hW (s 103) nr (by omega) (by omega)) ?_
  rintro _ _ ⟨s2, r3, rfl, rfl, hS2, hW4, f5, b6, k7⟩
  have hc8 : wo s2 := wo_fr f5 (by decide) hwo
  show tt Zi d 106 (19, [some (.inr (.inl 0)), some (.inl nr), none], [.inl r3], n, D, s2, p, c) _
  have b9 : 0 ≤ (s2 800) ∧ (s2 800) ≤ 65535 := hS2 800
  have b10 : -2147483648 ≤ (s2 801) ∧ (s2 801) ≤ 2147483647 := hS2 801
  have b11 : -2147483648 ≤ (s2 802) ∧ (s2 802) ≤ 2147483647 := hS2 802
  have b12 : -2147483648 ≤ (s2 803) ∧ (s2 803) ≤ 2147483647 := hS2 803
  have b13 : -2147483648 ≤ (s2 804) ∧ (s2 804) ≤ 2147483647 := hS2 804
  have b14 : 0 ≤ (s2 805) ∧ (s2 805) ≤ 65535 := hS2 805
  have b15 : 1 ≤ (s2 806) ∧ (s2 806) ≤ 511 := hS2 806
  have b16 : 0 ≤ (s2 807) ∧ (s2 807) ≤ 65536 := hS2 807
  have b17 : 0 ≤ (s2 808) ∧ (s2 808) ≤ 30 := hS2 808
  have b18 : 0 ≤ (s2 809) ∧ (s2 809) ≤ 64 := hS2 809
  have e19 : s2 100 = (s 100) := (f5 100 (by decide))
  have b20 : 1 ≤ (s2 100) ∧ (s2 100) ≤ 64 := hS2 100
  have b21 : 1 ≤ (s 100) ∧ (s 100) ≤ 64 := hS 100
  have e22 : s2 101 = (s 101) := (f5 101 (by decide))
  have b23 : 1 ≤ (s2 101) ∧ (s2 101) ≤ 64 := hS2 101
  have b24 : 1 ≤ (s 101) ∧ (s 101) ≤ 64 := hS 101
  have e25 : s2 102 = (s 102) := (f5 102 (by decide))
  have b26 : 1 ≤ (s2 102) ∧ (s2 102) ≤ 3 := hS2 102
  have b27 : 1 ≤ (s 102) ∧ (s 102) ≤ 3 := hS 102
  have e28 : s2 103 = (s 103) := (f5 103 (by decide))
  have b29 : 2 ≤ (s2 103) ∧ (s2 103) ≤ 16 := hS2 103
  have e30 : s2 401 = (s 401) := (f5 401 (by decide))
  have b31 : 0 ≤ (s2 401) ∧ (s2 401) ≤ 262144 := hS2 401
  have b32 : 0 ≤ (s 401) ∧ (s 401) ≤ 262144 := hS 401
  have e33 : s2 1602 = (s 1602) := (f5 1602 (by decide))
  have b34 : 1 ≤ (s2 1602) ∧ (s2 1602) ≤ 8 := hS2 1602
  have b35 : 1 ≤ (s 1602) ∧ (s 1602) ≤ 8 := hS 1602
  have hset0 : r3 = 0 → ¬ (VM (c 3 0) (c 3 1) (c 3 2) (c 3 3) (c 3 4) (s 103) nr) := fun h => (k7).elim (fun ⟨h1, _⟩ => by omega) (fun ⟨_, h2⟩ => by exact h2)
  have hset1 : r3 ≠ 0 → (VM (c 3 0) (c 3 1) (c 3 2) (c 3 3) (c 3 4) (s 103) nr) ∧ zq (ZM (c 3 0) (c 3 1) (c 3 2) (c 3 3) (c 3 4) (s 103) nr) (s2 800) (s2 801) (s2 802) (s2 803) (s2 804) (s2 805) (s2 806) (s2 807) (s2 808) (s2 809) := fun h => (k7).elim (fun ⟨_, h2⟩ => by exact h2) (fun ⟨h1, _⟩ => by exact absurd h1 h)
  clear k7
  refine tz_eq (x := r3) rfl rfl (by omega) (fun h36 => ?_) (fun h36 => ?_)
  · show tt Zi d 106 (39, [some (.inr (.inl 0)), some (.inl nr), none], [], n, D, s2, p, c) _
    have hn37 := wp_n hW4 (by omega)
    exact tt_thr (q := (11, 923)) rfl rfl (by decide) (by decide) (by omega) (by omega) (Or.inr ⟨rfl, cX_mono (q := q + 1) ⟨hS2, bC_x hC (hW4).dz (by decide), wp_x hW4, fk_x (fk_rf hD), (show fr s s2 LXR from (fr_tr fr_rf f5 (by decide)))⟩ (by omega), by first | exact fun h => hset0 (by omega) h.1 | exact fun h => hab1 (by omega) h.2⟩)
  · show tt Zi d 106 (22, [some (.inr (.inl 0)), some (.inl nr), none], [], n, D, s2, p, c) _
    obtain ⟨hVM, hzq⟩ := hset1 (by omega)
    have hmo : s2 800 = zMo (c 3 0) (s 103) := hzq.1
    refine tt_k 5 (S' := (33, [some (.inr (.inl 0)), some (.inl nr), none], [.inl (s2 800), .inr (.inl 1)], n, D, s2, p, c)) rfl ?_
    refine tt_cl (by omega) rfl (e_hasAbove1 (Zi := Zi) (q := q) (n := n) (D := D) (s := s2) (p := p) (c := c) (by omega) hz (by omega) hD hS2 hC hW4 (s2 800) (by omega)) ?_
    rintro _ _ ⟨r38, rfl, rfl, b39, k40⟩
    show tt Zi d 106 (36, [some (.inr (.inl 0)), some (.inl nr), none], [.inl r38], n, D, s2, p, c) _
    have e0 : s2 100 = s 100 := by omega
    have e1 : s2 101 = s 101 := by omega
    have e2 : s2 102 = s 102 := by omega
    rw [e0, e1, e2, hmo] at k40
    have hab0 : r38 = 0 → AB E (s 100) (s 101) (s 102) (zMo (c 3 0) (s 103)) := fun h => (k40).elim (fun ⟨_, h2⟩ => by exact AB_c hp0 (by omega) (by omega) (by omega) h2) (fun ⟨h1, _⟩ => by omega)
    have hab1 : r38 ≠ 0 → ¬ AB E (s 100) (s 101) (s 102) (zMo (c 3 0) (s 103)) := fun h => (k40).elim (fun ⟨h1, _⟩ => by exact absurd h1 h) (fun ⟨_, h2⟩ => by exact AB_n hp0 (by omega) (by omega) h2)
    clear k40
    refine tz_eq (x := r38) rfl rfl (by omega) (fun h41 => ?_) (fun h41 => ?_)
    · show tt Zi d 106 (47, [some (.inr (.inl 0)), some (.inl nr), none], [], n, D, s2, p, c) _
      have hAB := hab0 (by omega)
      have hmv : mv (ZM (c 3 0) (c 3 1) (c 3 2) (c 3 3) (c 3 4) (s 103) nr) := VM_mv (hC 3 0) (by omega) hVM
      have hEB : ∀ a y x : Int, (0 ≤ a ∧ a < s 102) → (0 ≤ y ∧ y < s 101) → (0 ≤ x ∧ x < s 100) → 0 ≤ E a y x ∧ E a y x ≤ (ZM (c 3 0) (c 3 1) (c 3 2) (c 3 3) (c 3 4) (s 103) nr) 3017 := fun a y x h1 h2 h3 => ⟨by rw [← hp0 a y x h1 h2 h3]; exact sm_nn hW hC, hAB a y x h1 h2 h3⟩
      refine tt_k 4 (S' := (55, [some (.inr (.inl 0)), some (.inl nr), none], [], n, D, (us s2 401 0), p, c)) rfl ?_
      have hW0 : wrl W00 ((us s2 401 0) 401) ((us s2 401 0) 1601) ((us s2 401 0) 1602) (c (p 400)) := ⟨rfl, Eq.symm ((f5 1601 (by decide)).trans hp1.1), Eq.symm ((f5 1602 (by decide)).trans hp1.2), fun i hi => absurd hi (by show ¬ (i : Int) < 0; omega)⟩
      refine tt_k 3 (S' := (62, [some (.inr (.inl 0)), some (.inl nr), none], [.inl 216, .inr (.inl 4)], n, D, (us s2 401 0), p, c)) rfl ?_
      have b42 : 0 ≤ (s2 1601) ∧ (s2 1601) ≤ 255 := hS2 1601
      refine tt_cl (by omega) rfl (e_addMark4 (Zi := Zi) (q := q) (n := n) (D := D) (s := (us s2 401 0)) (p := p) (c := c) (by omega) hz (by omega) hD (bS_us hS2 (show 0 ≤ 0 ∧ 0 ≤ 262144 by omega)) hC (wp_c4 hW4 (show 0 ≤ (ln D (p 400) : Int) by omega)) W00 216 (by omega) (show 0 ≤ 262142 by omega) hW0) ?_
      rintro _ _ ⟨n43, D44, s45, p46, c47, rfl, rfl, hS45, hC47, hW48, f49, g50, xe51, kf52, k53, k54⟩
      have hc55 : wo s45 := wo_fr f49 (by decide) (wo_us (by decide) hc8)
      have FK56 : fk p c n43 p46 c47 [400, 900, 901, 1203, 1204] := fk_tr (fk_rf hD) kf52 (by decide)
      show tt Zi d 106 (65, [some (.inr (.inl 0)), some (.inl nr), none], [], n43, D44, s45, p46, c47) _
      replace k53 : (s45 401) = 0 + 2 := k53
      have b57 : 0 ≤ (s45 401) ∧ (s45 401) ≤ 262144 := hS45 401
      have b58 : 0 ≤ (s45 1601) ∧ (s45 1601) ≤ 255 := hS45 1601
      have b59 : 1 ≤ (s45 1602) ∧ (s45 1602) ≤ 8 := hS45 1602
      have e60 : s45 801 = (s2 801) := (f49 801 (by decide))
      have b61 : -2147483648 ≤ (s45 801) ∧ (s45 801) ≤ 2147483647 := hS45 801
      have e62 : s45 800 = (s2 800) := (f49 800 (by decide))
      have b63 : 0 ≤ (s45 800) ∧ (s45 800) ≤ 65535 := hS45 800
      have e64 : s45 100 = (s2 100) := (f49 100 (by decide))
      have b65 : 1 ≤ (s45 100) ∧ (s45 100) ≤ 64 := hS45 100
      have e66 : s45 101 = (s2 101) := (f49 101 (by decide))
      have b67 : 1 ≤ (s45 101) ∧ (s45 101) ≤ 64 := hS45 101
      have e68 : s45 102 = (s2 102) := (f49 102 (by decide))
      have b69 : 1 ≤ (s45 102) ∧ (s45 102) ≤ 3 := hS45 102
      have e70 : s45 103 = (s2 103) := (f49 103 (by decide))
      have b71 : 2 ≤ (s45 103) ∧ (s45 103) ≤ 16 := hS45 103
      have e72 : s45 1602 = (s2 1602) := (f49 1602 (by decide))
      have hx73 : zq (ZM (c 3 0) (c 3 1) (c 3 2) (c 3 3) (c 3 4) (s 103) nr) (s45 800) (s45 801) (s45 802) (s45 803) (s45 804) (s45 805) (s45 806) (s45 807) (s45 808) (s45 809) := by rw [f49 800 (by decide), f49 801 (by decide), f49 802 (by decide), f49 803 (by decide), f49 804 (by decide), f49 805 (by decide), f49 806 (by decide), f49 807 (by decide), f49 808 (by decide), f49 809 (by decide)]; exact hzq
      refine tt_k 1 (S' := (66, [some (.inr (.inl 0)), some (.inl nr), none], [.inr (.inl 0)], n43, D44, s45, p46, c47)) rfl ?_
      refine tt_cl (by omega) rfl (e_writeFrame (Zi := Zi) (q := q) (n := n43) (D := D44) (s := s45) (p := p46) (c := c47) (by omega) hz (by omega) FK56.1 hS45 hC47 hW48 (wAdd (wAdd W00 255) 216) (show (s45 401) ≤ 200100 by omega) k54) ?_
      rintro _ _ ⟨n74, D75, s76, p77, c78, rfl, rfl, hS76, hC78, hW79, f80, g81, xe82, kf83, k84, k85⟩
      have hc86 : wo s76 := wo_fr f80 (by decide) hc55
      have FK87 : fk p c n74 p77 c78 [400, 900, 901, 1203, 1204] := fk_tr FK56 kf83 (by decide)
      show tt Zi d 106 (69, [some (.inr (.inl 0)), some (.inl nr), none], [], n74, D75, s76, p77, c78) _
      replace k84 : (s76 401) = (s45 401) + 10 + 3 * (s45 102) := k84
      have b88 : 0 ≤ (s76 401) ∧ (s76 401) ≤ 262144 := hS76 401
      have b89 : 0 ≤ (s76 1601) ∧ (s76 1601) ≤ 255 := hS76 1601
      have b90 : 1 ≤ (s76 1602) ∧ (s76 1602) ≤ 8 := hS76 1602
      have e91 : s76 801 = (s45 801) := (f80 801 (by decide))
      have b92 : -2147483648 ≤ (s76 801) ∧ (s76 801) ≤ 2147483647 := hS76 801
      have e93 : s76 800 = (s45 800) := (f80 800 (by decide))
      have b94 : 0 ≤ (s76 800) ∧ (s76 800) ≤ 65535 := hS76 800
      have e95 : s76 100 = (s45 100) := (f80 100 (by decide))
      have b96 : 1 ≤ (s76 100) ∧ (s76 100) ≤ 64 := hS76 100
      have e97 : s76 101 = (s45 101) := (f80 101 (by decide))
      have b98 : 1 ≤ (s76 101) ∧ (s76 101) ≤ 64 := hS76 101
      have e99 : s76 102 = (s45 102) := (f80 102 (by decide))
      have b100 : 1 ≤ (s76 102) ∧ (s76 102) ≤ 3 := hS76 102
      have e101 : s76 103 = (s45 103) := (f80 103 (by decide))
      have b102 : 2 ≤ (s76 103) ∧ (s76 103) ≤ 16 := hS76 103
      have e103 : s76 1602 = (s45 1602) := (f80 1602 (by decide))
      have hx104 : zq (ZM (c 3 0) (c 3 1) (c 3 2) (c 3 3) (c 3 4) (s 103) nr) (s76 800) (s76 801) (s76 802) (s76 803) (s76 804) (s76 805) (s76 806) (s76 807) (s76 808) (s76 809) := by rw [f80 800 (by decide), f80 801 (by decide), f80 802 (by decide), f80 803 (by decide), f80 804 (by decide), f80 805 (by decide), f80 806 (by decide), f80 807 (by decide), f80 808 (by decide), f80 809 (by decide)]; exact hx73
      have twf := k85
      rw [show s45 100 = s 100 by omega, show s45 101 = s 101 by omega, show s45 102 = s 102 by omega, show s45 103 = s 103 by omega] at twf
      refine tt_k 1 (S' := (70, [some (.inr (.inl 0)), some (.inl nr), none], [.inr (.inl 0)], n74, D75, s76, p77, c78)) rfl ?_
      refine tt_cl (by omega) rfl (e_hasChosen (Zi := Zi) (q := q) (n := n74) (D := D75) (s := s76) (p := p77) (c := c78) (by omega) hz (by omega) FK87.1 hS76 hC78 hW79 ) ?_
      rintro _ _ ⟨r105, rfl, rfl, b106, k107⟩
      show tt Zi d 106 (73, [some (.inr (.inl 0)), some (.inl nr), none], [.inl r105], n74, D75, s76, p77, c78) _
      rw [show c78 3 = c 3 from fk_c (k := 3) FK87 (by decide)] at k107
      have hch0 : r105 = 0 → (c 3 0 = 0 ∧ c 3 1 = 0 ∧ c 3 2 = 0 ∧ c 3 3 = 0 ∧ c 3 4 = 0) := fun h => (k107).elim (fun ⟨_, h2⟩ => by exact h2) (fun ⟨h1, _⟩ => by omega)
      have hch1 : r105 ≠ 0 → ¬ (c 3 0 = 0 ∧ c 3 1 = 0 ∧ c 3 2 = 0 ∧ c 3 3 = 0 ∧ c 3 4 = 0) := fun h => (k107).elim (fun ⟨h1, _⟩ => by exact absurd h1 h) (fun ⟨_, h2⟩ => by exact h2)
      clear k107
      refine tz_eq (x := r105) rfl rfl (by omega) (fun h108 => ?_) (fun h108 => ?_)
      · show tt Zi d 106 (80, [some (.inr (.inl 0)), some (.inl nr), none], [], n74, D75, s76, p77, c78) _
        have hch := hch0 (by omega)
        refine tt_k 2 (S' := (82, [some (.inr (.inl 0)), some (.inl nr), some (.inl 0)], [], n74, D75, s76, p77, c78)) rfl ?_
        have e0 : s76 100 = s 100 := by omega
        have e1 : s76 101 = s 101 := by omega
        have e2 : s76 102 = s 102 := by omega
        have hms : wrl (pMs (c 3 0) (c 3 1) (c 3 2) (c 3 3) (c 3 4) (pFm (s 100) (s 101) (s 102) (s 103) (pMk W00 216))) (s76 401) (s76 1601) (s76 1602) (c78 (p77 400)) := by unfold pMs; rw [if_pos hch]; exact twf
        have h16 : s76 1601 = 0 ∧ s76 1602 = 8 := ⟨((f80 1601 (by decide)).trans ((f49 1601 (by decide)).trans ((f5 1601 (by decide)).trans hp1.1))), ((f80 1602 (by decide)).trans ((f49 1602 (by decide)).trans ((f5 1602 (by decide)).trans hp1.2)))⟩
        have b109 : -2147483648 ≤ (s76 802) ∧ (s76 802) ≤ 2147483647 := hS76 802
        have b110 : -2147483648 ≤ (s76 803) ∧ (s76 803) ≤ 2147483647 := hS76 803
        have b111 : -2147483648 ≤ (s76 804) ∧ (s76 804) ≤ 2147483647 := hS76 804
        have b112 : 0 ≤ (s76 805) ∧ (s76 805) ≤ 65535 := hS76 805
        have b113 : 1 ≤ (s76 806) ∧ (s76 806) ≤ 511 := hS76 806
        have b114 : 0 ≤ (s76 807) ∧ (s76 807) ≤ 65536 := hS76 807
        have b115 : 0 ≤ (s76 808) ∧ (s76 808) ≤ 30 := hS76 808
        have b116 : 0 ≤ (s76 809) ∧ (s76 809) ≤ 64 := hS76 809
        refine e_pack_L82 (Zi := Zi) (q := q) (n := n74) (D := D75) (s := s76) (p := p77) (c := c78) hd hz (by omega) FK87.1 hS76 hC78 hW79 (ZM (c 3 0) (c 3 1) (c 3 2) (c 3 3) (c 3 4) (s 103) nr) E (pPl (ZM (c 3 0) (c 3 1) (c 3 2) (c 3 3) (c 3 4) (s 103) nr) (s 100) (s 101) E nr (s 102).toNat 0 (pMs (c 3 0) (c 3 1) (c 3 2) (c 3 3) (c 3 4) (pFm (s 100) (s 101) (s 102) (s 103) (pMk W00 216)))) nr (by omega) hx104 hmv (by rw [e0, e1, e2, fk_k (k := 104) FK87 (by decide)]; exact hp0) (by rw [e0, e1, e2]; exact hEB) (show 7 * (s76 401) - (s76 1602) ≤ 1000 by omega)  ?_ _ 0 n74 D75 s76 p77 c78 (by omega) hS76 fr_rf hC78 hW79 frp_rf ext_rf (fk_rf FK87.1) hc86 (show 7 * (s76 401) - (s76 1602) ≤ 1000 + 460000 * 0 by omega) (show 0 ≤ (s76 102) by omega) h16 ⟨_, hms, by rw [Int.sub_zero, e0, e1, e2]⟩ (Nat.lt_succ_self _)
        intro x117 n118 D119 s120 p121 c122 b123 hS120 f124 hC122 hW125 g126 xe127 kf128 hc129 i130 i131 i132 i133 hx134
        show tt Zi d 106 (127, [some (.inr (.inl 0)), some (.inl nr), some (.inl x117)], [], n118, D119, s120, p121, c122) _
        have FK135 : fk p c n118 p121 c122 [400, 900, 901, 1203, 1204] := fk_tr FK87 kf128 (by decide)
        replace i130 : 7 * (s120 401) - (s120 1602) ≤ 1000 + 460000 * x117 := i130
        have b136 : 0 ≤ (s120 401) ∧ (s120 401) ≤ 262144 := hS120 401
        have b137 : 1 ≤ (s120 1602) ∧ (s120 1602) ≤ 8 := hS120 1602
        replace i131 : x117 ≤ (s76 102) := i131
        replace i132 : (s120 1601) = 0 ∧ (s120 1602) = 8 := i132
        have b138 : 0 ≤ (s120 1601) ∧ (s120 1601) ≤ 255 := hS120 1601
        replace hx134 : (s76 102) ≤ x117 := hx134
        have e139 : s120 801 = (s76 801) := (f124 801 (by decide))
        have b140 : -2147483648 ≤ (s120 801) ∧ (s120 801) ≤ 2147483647 := hS120 801
        have e141 : s120 800 = (s76 800) := (f124 800 (by decide))
        have b142 : 0 ≤ (s120 800) ∧ (s120 800) ≤ 65535 := hS120 800
        have e143 : s120 100 = (s76 100) := (f124 100 (by decide))
        have b144 : 1 ≤ (s120 100) ∧ (s120 100) ≤ 64 := hS120 100
        have e145 : s120 101 = (s76 101) := (f124 101 (by decide))
        have b146 : 1 ≤ (s120 101) ∧ (s120 101) ≤ 64 := hS120 101
        have e147 : s120 102 = (s76 102) := (f124 102 (by decide))
        have b148 : 1 ≤ (s120 102) ∧ (s120 102) ≤ 3 := hS120 102
        have e149 : s120 103 = (s76 103) := (f124 103 (by decide))
        have b150 : 2 ≤ (s120 103) ∧ (s120 103) ≤ 16 := hS120 103
        have hx151 : zq (ZM (c 3 0) (c 3 1) (c 3 2) (c 3 3) (c 3 4) (s 103) nr) (s120 800) (s120 801) (s120 802) (s120 803) (s120 804) (s120 805) (s120 806) (s120 807) (s120 808) (s120 809) := by rw [f124 800 (by decide), f124 801 (by decide), f124 802 (by decide), f124 803 (by decide), f124 804 (by decide), f124 805 (by decide), f124 806 (by decide), f124 807 (by decide), f124 808 (by decide), f124 809 (by decide)]; exact hx104
        obtain ⟨W9, hw9, hw8⟩ := i133
        rw [show (s76 102 - x117).toNat = 0 by omega, pPl] at hw8
        refine tt_k 3 (S' := (134, [some (.inr (.inl 0)), some (.inl nr), some (.inl x117)], [.inl 217, .inr (.inl 4)], n118, D119, s120, p121, c122)) rfl ?_
        refine tt_cl (by omega) rfl (e_addMark4 (Zi := Zi) (q := q) (n := n118) (D := D119) (s := s120) (p := p121) (c := c122) (by omega) hz (by omega) FK135.1 hS120 hC122 hW125 W9 217 (by omega) (show (s120 401) ≤ 262142 by omega) hw9) ?_
        rintro _ _ ⟨n152, D153, s154, p155, c156, rfl, rfl, hS154, hC156, hW157, f158, g159, xe160, kf161, k162, k163⟩
        have hc164 : wo s154 := wo_fr f158 (by decide) hc129
        have FK165 : fk p c n152 p155 c156 [400, 900, 901, 1203, 1204] := fk_tr FK135 kf161 (by decide)
        show tt Zi d 106 (137, [some (.inr (.inl 0)), some (.inl nr), some (.inl x117)], [], n152, D153, s154, p155, c156) _
        replace k162 : (s154 401) = (s120 401) + 2 := k162
        have b166 : 0 ≤ (s154 401) ∧ (s154 401) ≤ 262144 := hS154 401
        have b167 : 0 ≤ (s154 1601) ∧ (s154 1601) ≤ 255 := hS154 1601
        have b168 : 1 ≤ (s154 1602) ∧ (s154 1602) ≤ 8 := hS154 1602
        have e169 : s154 801 = (s120 801) := (f158 801 (by decide))
        have b170 : -2147483648 ≤ (s154 801) ∧ (s154 801) ≤ 2147483647 := hS154 801
        have e171 : s154 800 = (s120 800) := (f158 800 (by decide))
        have b172 : 0 ≤ (s154 800) ∧ (s154 800) ≤ 65535 := hS154 800
        have e173 : s154 100 = (s120 100) := (f158 100 (by decide))
        have b174 : 1 ≤ (s154 100) ∧ (s154 100) ≤ 64 := hS154 100
        have e175 : s154 101 = (s120 101) := (f158 101 (by decide))
        have b176 : 1 ≤ (s154 101) ∧ (s154 101) ≤ 64 := hS154 101
        have e177 : s154 102 = (s120 102) := (f158 102 (by decide))
        have b178 : 1 ≤ (s154 102) ∧ (s154 102) ≤ 3 := hS154 102
        have e179 : s154 103 = (s120 103) := (f158 103 (by decide))
        have b180 : 2 ≤ (s154 103) ∧ (s154 103) ≤ 16 := hS154 103
        have e181 : s154 1602 = (s120 1602) := (f158 1602 (by decide))
        have hx182 : zq (ZM (c 3 0) (c 3 1) (c 3 2) (c 3 3) (c 3 4) (s 103) nr) (s154 800) (s154 801) (s154 802) (s154 803) (s154 804) (s154 805) (s154 806) (s154 807) (s154 808) (s154 809) := by rw [f158 800 (by decide), f158 801 (by decide), f158 802 (by decide), f158 803 (by decide), f158 804 (by decide), f158 805 (by decide), f158 806 (by decide), f158 807 (by decide), f158 808 (by decide), f158 809 (by decide)]; exact hx151
        have h16z : s154 1601 = 0 ∧ s154 1602 = 8 := ⟨(f158 1601 (by decide)).trans i132.1, (f158 1602 (by decide)).trans i132.2⟩
        refine tt_k 3 (S' := (144, [some (.inr (.inl 0)), some (.inl nr), some (.inl x117)], [.inl (s154 401)], n152, D153, s154, p155, c156)) rfl ?_
        exact tt_rti rfl rfl (Or.inl ⟨(s154 401), rfl, by omega, cX_mono (q := q) (show cX q g s p c [400, 900, 901, 1203, 1204] [401, 800, 801, 802, 803, 804, 805, 806, 807, 808, 809, 902, 1206, 1207, 1208, 1209, 1210, 1211, 1212, 1213, 1214, 1215, 1216, 1601, 1602] (n152, D153, s154, p155, c156) from ⟨hS154, hC156, hW157, FK165, (show fr s s154 [401, 800, 801, 802, 803, 804, 805, 806, 807, 808, 809, 902, 1206, 1207, 1208, 1209, 1210, 1211, 1212, 1213, 1214, 1215, 1216, 1601, 1602] from (fr_tr (fr_tr (fr_tr (fr_tr (fr_us (by decide) (fr_tr fr_rf f5 (by decide))) f49 (by decide)) f80 (by decide)) f124 (by decide)) f158 (by decide)))⟩) (by omega), by exact ⟨hVM, hAB⟩, by have h := k163; rw [hw8] at h; rw [h16z.1, h16z.2] at h; exact h, by exact h16z, by rfl⟩)
      · show tt Zi d 106 (76, [some (.inr (.inl 0)), some (.inl nr), none], [], n74, D75, s76, p77, c78) _
        have hch := hch1 (by omega)
        refine tt_k 1 (S' := (77, [some (.inr (.inl 0)), some (.inl nr), none], [.inr (.inl 0)], n74, D75, s76, p77, c78)) rfl ?_
        refine tt_cl (by omega) rfl (e_writeMeasures (Zi := Zi) (q := q) (n := n74) (D := D75) (s := s76) (p := p77) (c := c78) (by omega) hz (by omega) FK87.1 hS76 hC78 hW79 (pFm (s 100) (s 101) (s 102) (s 103) (wAdd (wAdd W00 255) 216)) (show (s76 401) ≤ 200100 by omega) twf) ?_
        rintro _ _ ⟨n183, D184, s185, p186, c187, rfl, rfl, hS185, hC187, hW188, f189, g190, xe191, kf192, k193, k194⟩
        have hc195 : wo s185 := wo_fr f189 (by decide) hc86
        have FK196 : fk p c n183 p186 c187 [400, 900, 901, 1203, 1204] := fk_tr FK87 kf192 (by decide)
        show tt Zi d 106 (80, [some (.inr (.inl 0)), some (.inl nr), none], [], n183, D184, s185, p186, c187) _
        replace k193 : (s185 401) = (s76 401) + 15 := k193
        have b197 : 0 ≤ (s185 401) ∧ (s185 401) ≤ 262144 := hS185 401
        have b198 : 0 ≤ (s185 1601) ∧ (s185 1601) ≤ 255 := hS185 1601
        have b199 : 1 ≤ (s185 1602) ∧ (s185 1602) ≤ 8 := hS185 1602
        have e200 : s185 801 = (s76 801) := (f189 801 (by decide))
        have b201 : -2147483648 ≤ (s185 801) ∧ (s185 801) ≤ 2147483647 := hS185 801
        have e202 : s185 800 = (s76 800) := (f189 800 (by decide))
        have b203 : 0 ≤ (s185 800) ∧ (s185 800) ≤ 65535 := hS185 800
        have e204 : s185 100 = (s76 100) := (f189 100 (by decide))
        have b205 : 1 ≤ (s185 100) ∧ (s185 100) ≤ 64 := hS185 100
        have e206 : s185 101 = (s76 101) := (f189 101 (by decide))
        have b207 : 1 ≤ (s185 101) ∧ (s185 101) ≤ 64 := hS185 101
        have e208 : s185 102 = (s76 102) := (f189 102 (by decide))
        have b209 : 1 ≤ (s185 102) ∧ (s185 102) ≤ 3 := hS185 102
        have e210 : s185 103 = (s76 103) := (f189 103 (by decide))
        have b211 : 2 ≤ (s185 103) ∧ (s185 103) ≤ 16 := hS185 103
        have e212 : s185 1602 = (s76 1602) := (f189 1602 (by decide))
        have hx213 : zq (ZM (c 3 0) (c 3 1) (c 3 2) (c 3 3) (c 3 4) (s 103) nr) (s185 800) (s185 801) (s185 802) (s185 803) (s185 804) (s185 805) (s185 806) (s185 807) (s185 808) (s185 809) := by rw [f189 800 (by decide), f189 801 (by decide), f189 802 (by decide), f189 803 (by decide), f189 804 (by decide), f189 805 (by decide), f189 806 (by decide), f189 807 (by decide), f189 808 (by decide), f189 809 (by decide)]; exact hx104
        have twm := k194
        rw [show c78 3 = c 3 from fk_c (k := 3) FK87 (by decide)] at twm
        refine tt_k 2 (S' := (82, [some (.inr (.inl 0)), some (.inl nr), some (.inl 0)], [], n183, D184, s185, p186, c187)) rfl ?_
        have e0 : s185 100 = s 100 := by omega
        have e1 : s185 101 = s 101 := by omega
        have e2 : s185 102 = s 102 := by omega
        have hms : wrl (pMs (c 3 0) (c 3 1) (c 3 2) (c 3 3) (c 3 4) (pFm (s 100) (s 101) (s 102) (s 103) (pMk W00 216))) (s185 401) (s185 1601) (s185 1602) (c187 (p186 400)) := by unfold pMs; rw [if_neg hch]; exact twm
        have h16 : s185 1601 = 0 ∧ s185 1602 = 8 := ⟨((f189 1601 (by decide)).trans ((f80 1601 (by decide)).trans ((f49 1601 (by decide)).trans ((f5 1601 (by decide)).trans hp1.1)))), ((f189 1602 (by decide)).trans ((f80 1602 (by decide)).trans ((f49 1602 (by decide)).trans ((f5 1602 (by decide)).trans hp1.2))))⟩
        have b214 : -2147483648 ≤ (s185 802) ∧ (s185 802) ≤ 2147483647 := hS185 802
        have b215 : -2147483648 ≤ (s185 803) ∧ (s185 803) ≤ 2147483647 := hS185 803
        have b216 : -2147483648 ≤ (s185 804) ∧ (s185 804) ≤ 2147483647 := hS185 804
        have b217 : 0 ≤ (s185 805) ∧ (s185 805) ≤ 65535 := hS185 805
        have b218 : 1 ≤ (s185 806) ∧ (s185 806) ≤ 511 := hS185 806
        have b219 : 0 ≤ (s185 807) ∧ (s185 807) ≤ 65536 := hS185 807
        have b220 : 0 ≤ (s185 808) ∧ (s185 808) ≤ 30 := hS185 808
        have b221 : 0 ≤ (s185 809) ∧ (s185 809) ≤ 64 := hS185 809
        refine e_pack_L82 (Zi := Zi) (q := q) (n := n183) (D := D184) (s := s185) (p := p186) (c := c187) hd hz (by omega) FK196.1 hS185 hC187 hW188 (ZM (c 3 0) (c 3 1) (c 3 2) (c 3 3) (c 3 4) (s 103) nr) E (pPl (ZM (c 3 0) (c 3 1) (c 3 2) (c 3 3) (c 3 4) (s 103) nr) (s 100) (s 101) E nr (s 102).toNat 0 (pMs (c 3 0) (c 3 1) (c 3 2) (c 3 3) (c 3 4) (pFm (s 100) (s 101) (s 102) (s 103) (pMk W00 216)))) nr (by omega) hx213 hmv (by rw [e0, e1, e2, fk_k (k := 104) FK196 (by decide)]; exact hp0) (by rw [e0, e1, e2]; exact hEB) (show 7 * (s185 401) - (s185 1602) ≤ 1000 by omega)  ?_ _ 0 n183 D184 s185 p186 c187 (by omega) hS185 fr_rf hC187 hW188 frp_rf ext_rf (fk_rf FK196.1) hc195 (show 7 * (s185 401) - (s185 1602) ≤ 1000 + 460000 * 0 by omega) (show 0 ≤ (s185 102) by omega) h16 ⟨_, hms, by rw [Int.sub_zero, e0, e1, e2]⟩ (Nat.lt_succ_self _)
        intro x222 n223 D224 s225 p226 c227 b228 hS225 f229 hC227 hW230 g231 xe232 kf233 hc234 i235 i236 i237 i238 hx239
        show tt Zi d 106 (127, [some (.inr (.inl 0)), some (.inl nr), some (.inl x222)], [], n223, D224, s225, p226, c227) _
        have FK240 : fk p c n223 p226 c227 [400, 900, 901, 1203, 1204] := fk_tr FK196 kf233 (by decide)
        replace i235 : 7 * (s225 401) - (s225 1602) ≤ 1000 + 460000 * x222 := i235
        have b241 : 0 ≤ (s225 401) ∧ (s225 401) ≤ 262144 := hS225 401
        have b242 : 1 ≤ (s225 1602) ∧ (s225 1602) ≤ 8 := hS225 1602
        replace i236 : x222 ≤ (s185 102) := i236
        replace i237 : (s225 1601) = 0 ∧ (s225 1602) = 8 := i237
        have b243 : 0 ≤ (s225 1601) ∧ (s225 1601) ≤ 255 := hS225 1601
        replace hx239 : (s185 102) ≤ x222 := hx239
        have e244 : s225 801 = (s185 801) := (f229 801 (by decide))
        have b245 : -2147483648 ≤ (s225 801) ∧ (s225 801) ≤ 2147483647 := hS225 801
        have e246 : s225 800 = (s185 800) := (f229 800 (by decide))
        have b247 : 0 ≤ (s225 800) ∧ (s225 800) ≤ 65535 := hS225 800
        have e248 : s225 100 = (s185 100) := (f229 100 (by decide))
        have b249 : 1 ≤ (s225 100) ∧ (s225 100) ≤ 64 := hS225 100
        have e250 : s225 101 = (s185 101) := (f229 101 (by decide))
        have b251 : 1 ≤ (s225 101) ∧ (s225 101) ≤ 64 := hS225 101
        have e252 : s225 102 = (s185 102) := (f229 102 (by decide))
        have b253 : 1 ≤ (s225 102) ∧ (s225 102) ≤ 3 := hS225 102
        have e254 : s225 103 = (s185 103) := (f229 103 (by decide))
        have b255 : 2 ≤ (s225 103) ∧ (s225 103) ≤ 16 := hS225 103
        have hx256 : zq (ZM (c 3 0) (c 3 1) (c 3 2) (c 3 3) (c 3 4) (s 103) nr) (s225 800) (s225 801) (s225 802) (s225 803) (s225 804) (s225 805) (s225 806) (s225 807) (s225 808) (s225 809) := by rw [f229 800 (by decide), f229 801 (by decide), f229 802 (by decide), f229 803 (by decide), f229 804 (by decide), f229 805 (by decide), f229 806 (by decide), f229 807 (by decide), f229 808 (by decide), f229 809 (by decide)]; exact hx213
        obtain ⟨W9, hw9, hw8⟩ := i238
        rw [show (s185 102 - x222).toNat = 0 by omega, pPl] at hw8
        refine tt_k 3 (S' := (134, [some (.inr (.inl 0)), some (.inl nr), some (.inl x222)], [.inl 217, .inr (.inl 4)], n223, D224, s225, p226, c227)) rfl ?_
        refine tt_cl (by omega) rfl (e_addMark4 (Zi := Zi) (q := q) (n := n223) (D := D224) (s := s225) (p := p226) (c := c227) (by omega) hz (by omega) FK240.1 hS225 hC227 hW230 W9 217 (by omega) (show (s225 401) ≤ 262142 by omega) hw9) ?_
        rintro _ _ ⟨n257, D258, s259, p260, c261, rfl, rfl, hS259, hC261, hW262, f263, g264, xe265, kf266, k267, k268⟩
        have hc269 : wo s259 := wo_fr f263 (by decide) hc234
        have FK270 : fk p c n257 p260 c261 [400, 900, 901, 1203, 1204] := fk_tr FK240 kf266 (by decide)
        show tt Zi d 106 (137, [some (.inr (.inl 0)), some (.inl nr), some (.inl x222)], [], n257, D258, s259, p260, c261) _
        replace k267 : (s259 401) = (s225 401) + 2 := k267
        have b271 : 0 ≤ (s259 401) ∧ (s259 401) ≤ 262144 := hS259 401
        have b272 : 0 ≤ (s259 1601) ∧ (s259 1601) ≤ 255 := hS259 1601
        have b273 : 1 ≤ (s259 1602) ∧ (s259 1602) ≤ 8 := hS259 1602
        have e274 : s259 801 = (s225 801) := (f263 801 (by decide))
        have b275 : -2147483648 ≤ (s259 801) ∧ (s259 801) ≤ 2147483647 := hS259 801
        have e276 : s259 800 = (s225 800) := (f263 800 (by decide))
        have b277 : 0 ≤ (s259 800) ∧ (s259 800) ≤ 65535 := hS259 800
        have e278 : s259 100 = (s225 100) := (f263 100 (by decide))
        have b279 : 1 ≤ (s259 100) ∧ (s259 100) ≤ 64 := hS259 100
        have e280 : s259 101 = (s225 101) := (f263 101 (by decide))
        have b281 : 1 ≤ (s259 101) ∧ (s259 101) ≤ 64 := hS259 101
        have e282 : s259 102 = (s225 102) := (f263 102 (by decide))
        have b283 : 1 ≤ (s259 102) ∧ (s259 102) ≤ 3 := hS259 102
        have e284 : s259 103 = (s225 103) := (f263 103 (by decide))
        have b285 : 2 ≤ (s259 103) ∧ (s259 103) ≤ 16 := hS259 103
        have e286 : s259 1602 = (s225 1602) := (f263 1602 (by decide))
        have hx287 : zq (ZM (c 3 0) (c 3 1) (c 3 2) (c 3 3) (c 3 4) (s 103) nr) (s259 800) (s259 801) (s259 802) (s259 803) (s259 804) (s259 805) (s259 806) (s259 807) (s259 808) (s259 809) := by rw [f263 800 (by decide), f263 801 (by decide), f263 802 (by decide), f263 803 (by decide), f263 804 (by decide), f263 805 (by decide), f263 806 (by decide), f263 807 (by decide), f263 808 (by decide), f263 809 (by decide)]; exact hx256
        have h16z : s259 1601 = 0 ∧ s259 1602 = 8 := ⟨(f263 1601 (by decide)).trans i237.1, (f263 1602 (by decide)).trans i237.2⟩
        refine tt_k 3 (S' := (144, [some (.inr (.inl 0)), some (.inl nr), some (.inl x222)], [.inl (s259 401)], n257, D258, s259, p260, c261)) rfl ?_
        exact tt_rti rfl rfl (Or.inl ⟨(s259 401), rfl, by omega, cX_mono (q := q) (show cX q g s p c [400, 900, 901, 1203, 1204] [401, 800, 801, 802, 803, 804, 805, 806, 807, 808, 809, 902, 1206, 1207, 1208, 1209, 1210, 1211, 1212, 1213, 1214, 1215, 1216, 1601, 1602] (n257, D258, s259, p260, c261) from ⟨hS259, hC261, hW262, FK270, (show fr s s259 [401, 800, 801, 802, 803, 804, 805, 806, 807, 808, 809, 902, 1206, 1207, 1208, 1209, 1210, 1211, 1212, 1213, 1214, 1215, 1216, 1601, 1602] from (fr_tr (fr_tr (fr_tr (fr_tr (fr_tr (fr_us (by decide) (fr_tr fr_rf f5 (by decide))) f49 (by decide)) f80 (by decide)) f189 (by decide)) f229 (by decide)) f263 (by decide)))⟩) (by omega), by exact ⟨hVM, hAB⟩, by have h := k268; rw [hw8] at h; rw [h16z.1, h16z.2] at h; exact h, by exact h16z, by rfl⟩)
    · show tt Zi d 106 (39, [some (.inr (.inl 0)), some (.inl nr), none], [], n, D, s2, p, c) _
      have hn288 := wp_n hW4 (by omega)
      exact tt_thr (q := (11, 923)) rfl rfl (by decide) (by decide) (by omega) (by omega) (Or.inr ⟨rfl, cX_mono (q := q + 1) ⟨hS2, bC_x hC (hW4).dz (by decide), wp_x hW4, fk_x (fk_rf hD), (show fr s s2 LXR from (fr_tr fr_rf f5 (by decide)))⟩ (by omega), by first | exact fun h => hset0 (by omega) h.1 | exact fun h => hab1 (by omega) h.2⟩)
