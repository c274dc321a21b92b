/-! the class's plane, exactly: its rows -/
def mrk (M : MT) (f : Nat → Int) : Prop := mrc M f
def plO (Z : Nat → Int) (h : Int) (S : Int → Int → Int) (R : XT) (U y w pc z he r : Int) (fw fm fh : Nat → Int) : Prop := ∃ X : XT, plI Z w h S R U y 0 X ∧ wrl X.1 z he r fw ∧ mrc X.2.1 fm ∧ pc = X.2.2.1 ∧ hE X.2.2.2 w y fh
set_option maxRecDepth 100000 in
set_option maxHeartbeats 4000000 in
theorem e_keep {g : Nat → Int} {Zi : Nat → Option (Nat × (Nat → Int))} {d n q : Nat} {D : Nat → Nat × Nat} {s : Nat → Int} {p : Nat → Nat} {c : Nat → Nat → Int} (hd : 0 ≤ d) (hz : zk Zi) (hq : q + 0 ≤ 400000) (hD : wd n p) (hS : bS s) (hC : bC D c) (hW : wp q g n D p s) (M : MT) (hp0 : mrc M (c (p 901))) : tt Zi d 77 (0, [some (.inr (.inl 9)), none], [], n, D, s, p, c) (fun R H => ∃ (p' : Nat → Nat), R = .inl none ∧ H = (n, D, s, p', c) ∧ wp q g n D p' s ∧ frp p p' [900, 901] ∧ fk p c n p' c [900, 901] ∧ (mrk M (c (p' 900)))) := by
  refine tt_k 10 (S' := (18, [some (.inr (.inl 9)), some (.inr (.inl (p 900)))], [], n, D, s, (up (up p 900 (p 901)) 901 (p 900)), c)) rfl ?_
  exact tt_rtv rfl rfl ⟨(up (up p 900 (p 901)) 901 (p 900)), rfl, rfl, (wp_sw9 hW), (frp_up (by decide) (frp_up (by decide) frp_rf)), (fk_sw (k := 900) (j := 901) (fk_rf hD) (by decide)), hp0⟩
set_option maxRecDepth 100000 in
set_option maxHeartbeats 4000000 in
theorem e_tellPlane_L40 {g : Nat → Int} {Zi : Nat → Option (Nat × (Nat → Int))} {d n q : Nat} {D : Nat → Nat × Nat} {s : Nat → Int} {p : Nat → Nat} {c : Nat → Nat → Int}  {Q : mi_Rs → mi_H → Prop} (hd : 5 ≤ d) (hz : zk Zi) (hq : q + 10 ≤ 400001) (hD : wd n p) (hS : bS s) (hC : bC D c) (hW : wp q g n D p s) (Z : Nat → Int) (S : Int → Int → Int) (R : XT) (U : Int) (U2 : Int) (a_ : Int) (b_a_ : 0 ≤ a_ ∧ a_ ≤ 2) (hq0 : s 100 * s 101 * s 102 ≤ (ln D (p 1205) : Int)) (hq1 : s 1206 = s 100) (hq2 : a_ < s 102 ∧ 1 ≤ s 100) (hq3 : zq Z (s 800) (s 801) (s 802) (s 803) (s 804) (s 805) (s 806) (s 807) (s 808) (s 809)) (hq4 : mv Z) (hq5 : ∀ yy : Int, 0 ≤ yy → yy < s 101 → ∀ xx : Int, 0 ≤ xx → xx < s 100 → c (p 104) ((a_ * s 101 + yy) * s 100 + xx).toNat = S yy xx) (hq6 : p 1205 = p 104) (hq7 : ∀ yy : Int, 0 ≤ yy → yy < s 101 → ∀ xx : Int, 0 ≤ xx → xx < s 1206 → 0 ≤ S yy xx ∧ S yy xx ≤ Z 3017) (hq8 : U2 + 457600 ≤ 1834000)
  (hK : ∀ (y : Int) (o_4 : Option mi_V) (n0 : Nat) (D0 : Nat → Nat × Nat) (s0 : Nat → Int) (p0 : Nat → Nat) (c0 : Nat → Nat → Int) (b_y : 0 ≤ y ∧ y ≤ 64) (hS0 : bS s0) (hF0 : fr s s0 [401, 902, 1207, 1208, 1209, 1210, 1211, 1212, 1213, 1214, 1215, 1216, 1601, 1602]) (hC0 : bC D0 c0) (hW0 : wp q g n0 D0 p0 s0) (hP0 : frp p p0 [400, 1203, 1204]) (hE0 : ext n D n0 D0) (hK0 : fk p c n0 p0 c0 [400, 901, 1203, 1204]) (hc_wo : wo s0) (i0 : y ≤ s 101) (i1 : 7 * s0 401 - s0 1602 ≤ U2 + 7150 * y) (i2 : plO Z (s 101) S R U y (s 1206) (s0 902) (s0 401) (s0 1601) (s0 1602) (c0 (p0 400)) (c0 (p0 901)) (c0 (p0 1204))), (s 101 ≤ y) → tt Zi d 32 (149, [some (.inr (.inl 12)), some (.inr (.inl 1)), some (.inl a_), some (.inl y), o_4], [], n0, D0, s0, p0, c0) Q) :
  ∀ (m : Nat) (y : Int) (o_4 : Option mi_V) (n0 : Nat) (D0 : Nat → Nat × Nat) (s0 : Nat → Int) (p0 : Nat → Nat) (c0 : Nat → Nat → Int) (b_y : 0 ≤ y ∧ y ≤ 64) (hS0 : bS s0) (hF0 : fr s s0 [401, 902, 1207, 1208, 1209, 1210, 1211, 1212, 1213, 1214, 1215, 1216, 1601, 1602]) (hC0 : bC D0 c0) (hW0 : wp q g n0 D0 p0 s0) (hP0 : frp p p0 [400, 1203, 1204]) (hE0 : ext n D n0 D0) (hK0 : fk p c n0 p0 c0 [400, 901, 1203, 1204]) (hc_wo : wo s0) (i0 : y ≤ s 101) (i1 : 7 * s0 401 - s0 1602 ≤ U2 + 7150 * y) (i2 : plO Z (s 101) S R U y (s 1206) (s0 902) (s0 401) (s0 1601) (s0 1602) (c0 (p0 400)) (c0 (p0 901)) (c0 (p0 1204))), (s 101 - y).toNat < m → tt Zi d 32 (40, [some (.inr (.inl 12)), some (.inr (.inl 1)), some (.inl a_), some (.inl y), o_4], [], n0, D0, s0, p0, c0) Q := by
  intro m
  induction m with
  | zero => intro y o_4 n0 D0 s0 p0 c0 b_y hS0 hF0 hC0 hW0 hP0 hE0 hK0 hc_wo i0 i1 i2 hm; exact absurd hm (by omega)
  | succ m ih =>
    intro y o_4 n0 D0 s0 p0 c0 b_y hS0 hF0 hC0 hW0 hP0 hE0 hK0 hc_wo i0 i1 i2 hm
    have e1 : s0 100 = s 100 := hF0 100 (by decide)
    have b2 : 1 ≤ (s0 100) ∧ (s0 100) ≤ 64 := hS0 100
    have b3 : 1 ≤ (s 100) ∧ (s 100) ≤ 64 := hS 100
    have e4 : s0 101 = s 101 := hF0 101 (by decide)
    have b5 : 1 ≤ (s0 101) ∧ (s0 101) ≤ 64 := hS0 101
    have b6 : 1 ≤ (s 101) ∧ (s 101) ≤ 64 := hS 101
    have e7 : s0 102 = s 102 := hF0 102 (by decide)
    have b8 : 1 ≤ (s0 102) ∧ (s0 102) ≤ 3 := hS0 102
    have b9 : 1 ≤ (s 102) ∧ (s 102) ≤ 3 := hS 102
    have e10 : s0 1206 = s 1206 := hF0 1206 (by decide)
    have b11 : 0 ≤ (s0 1206) ∧ (s0 1206) ≤ 64 := hS0 1206
    have b12 : 0 ≤ (s 1206) ∧ (s 1206) ≤ 64 := hS 1206
    have e13 : s0 801 = s 801 := hF0 801 (by decide)
    have b14 : -2147483648 ≤ (s0 801) ∧ (s0 801) ≤ 2147483647 := hS0 801
    have b15 : -2147483648 ≤ (s 801) ∧ (s 801) ≤ 2147483647 := hS 801
    have b16 : ln D0 (p0 1205) ≤ 12288 := (hW0).s12.2.2
    have el : ln D0 (p0 1205) = ln D (p 1205) := by rw [hP0 1205 (by decide)]; exact ext_ln hE0 (arr_lt hW.s12.1)
    obtain ⟨X, hI, hwr, hmr, hpc, hhe⟩ := i2
    have hz0 : zq Z (s0 800) (s0 801) (s0 802) (s0 803) (s0 804) (s0 805) (s0 806) (s0 807) (s0 808) (s0 809) := by rw [hF0 800 (by decide), hF0 801 (by decide), hF0 802 (by decide), hF0 803 (by decide), hF0 804 (by decide), hF0 805 (by decide), hF0 806 (by decide), hF0 807 (by decide), hF0 808 (by decide), hF0 809 (by decide)]; exact hq3
    refine tt_k 3 (S' := (45, [some (.inr (.inl 12)), some (.inr (.inl 1)), some (.inl a_), some (.inl y), o_4], [.inl (s0 101), .inl y], n0, D0, s0, p0, c0)) rfl ?_
    refine tb_ge (x := y) (y := (s0 101)) rfl rfl (by omega) (fun h17 => ?_) (fun h17 => ?_)
    · show tt Zi d 32 (149, [some (.inr (.inl 12)), some (.inr (.inl 1)), some (.inl a_), some (.inl y), o_4], [], n0, D0, s0, p0, c0) _
      exact hK y (o_4) n0 D0 s0 p0 c0 (by omega) hS0 hF0 hC0 hW0 hP0 hE0 hK0 hc_wo (show y ≤ s 101 by omega) (show 7 * (s0 401) - (s0 1602) ≤ U2 + 7150 * y by omega) ⟨X, hI, hwr, hmr, hpc, hhe⟩ (by omega)
    · show tt Zi d 32 (48, [some (.inr (.inl 12)), some (.inr (.inl 1)), some (.inl a_), some (.inl y), o_4], [], n0, D0, s0, p0, c0) _
      refine tt_k 5 (S' := (53, [some (.inr (.inl 12)), some (.inr (.inl 1)), some (.inl a_), some (.inl y), o_4], [.inl y, .inl 0, .inl a_, .inr (.inl 1), .inr (.inl 12)], n0, D0, s0, p0, c0)) rfl ?_
      refine tt_cl (by omega) rfl (g_index1 (Zi := Zi) (q := q) (n := n0) (D := D0) (s := s0) (p := p0) (c := c0) (by omega) hz (by omega) hK0.1 hS0 hC0 hW0 a_ 0 y (by omega) (by omega) (by omega) (show a_ < (s0 102) ∧ 0 < (s0 100) ∧ y < (s0 101) by omega)) ?_
      rintro _ _ ⟨r18, rfl, rfl, b19, k20, k21⟩
      show tt Zi d 32 (56, [some (.inr (.inl 12)), some (.inr (.inl 1)), some (.inl a_), some (.inl y), o_4], [.inl r18, .inr (.inl 12)], n0, D0, s0, p0, c0) _
      replace k20 : r18 = (a_ * (s0 101) + y) * (s0 100) + 0 := k20
      replace k21 : r18 + (s0 100) - 0 ≤ (s0 100) * (s0 101) * (s0 102) := k21
      have hmm : (s0 100) * (s0 101) * (s0 102) = s 100 * s 101 * s 102 := by rw [show (s0 100) = s 100 by omega, show (s0 101) = s 101 by omega, show (s0 102) = s 102 by omega]
      have hrs : r18 = (a_ * s 101 + y) * s 100 + 0 := by have h := k20; rw [show (s0 101) = s 101 by omega, show (s0 100) = s 100 by omega] at h; exact h
      refine tt_k 2 (S' := (60, [some (.inr (.inl 12)), some (.inr (.inl 1)), some (.inl a_), some (.inl y), o_4], [.inr (.inl 12)], n0, D0, (us s0 1207 r18), p0, c0)) rfl ?_
      refine tt_cl (by omega) rfl (e_openRow (Zi := Zi) (q := q) (n := n0) (D := D0) (s := (us s0 1207 r18)) (p := p0) (c := c0) (by omega) hz (by omega) hK0.1 (bS_us hS0 (show 0 ≤ r18 ∧ r18 ≤ 12288 by omega)) hC0 (wp_us (by decide) hW0) X.2.2.2 y (by have e6 : s0 1206 = s 1206 := hF0 1206 (by decide); show hE X.2.2.2 (s0 1206) y _; rw [e6]; exact hhe) (show 1 ≤ (s0 1206) by omega)) ?_
      rintro _ _ ⟨p22, c23, rfl, rfl, hC23, hW24, g25, kf26, k27⟩
      have FK28 : fk p c n0 p22 c23 [400, 901, 1203, 1204] := fk_tr hK0 kf26 (by decide)
      show tt Zi d 32 (63, [some (.inr (.inl 12)), some (.inr (.inl 1)), some (.inl a_), some (.inl y), o_4], [], n0, D0, (us s0 1207 r18), p22, c23) _
      have e29 : ln D0 (p22 1205) = ln D0 (p0 1205) := (congrArg (ln D0) (g25 1205 (by decide)))
      have hx30 : wrl X.1 (s0 401) (s0 1601) (s0 1602) (c23 (p22 400)) := by rw [fk_k (k := 400) kf26 (by decide)]; exact hwr
      have hx31 : mrc X.2.1 (c23 (p22 901)) := by rw [fk_k (k := 901) kf26 (by decide)]; exact hmr
      have hhr : hrl (X.2.2.2, s 1206, 0, y) (c23 (p22 1204)) (c23 (p22 1203)) := by have h : hrl (X.2.2.2, s0 1206, 0, y) (c23 (p22 1204)) (c23 (p22 1203)) := k27; rw [show s0 1206 = s 1206 from hF0 1206 (by decide)] at h; exact h
      refine tt_k 2 (S' := (66, [some (.inr (.inl 12)), some (.inr (.inl 1)), some (.inl a_), some (.inl y), some (.inl 0)], [], n0, D0, (us s0 1207 r18), p22, c23)) rfl ?_
      have b32 : 0 ≤ (s0 800) ∧ (s0 800) ≤ 65535 := hS0 800
      have b33 : -2147483648 ≤ (s0 802) ∧ (s0 802) ≤ 2147483647 := hS0 802
      have b34 : -2147483648 ≤ (s0 803) ∧ (s0 803) ≤ 2147483647 := hS0 803
      have b35 : -2147483648 ≤ (s0 804) ∧ (s0 804) ≤ 2147483647 := hS0 804
      have b36 : 0 ≤ (s0 805) ∧ (s0 805) ≤ 65535 := hS0 805
      have b37 : 1 ≤ (s0 806) ∧ (s0 806) ≤ 511 := hS0 806
      have b38 : 0 ≤ (s0 807) ∧ (s0 807) ≤ 65536 := hS0 807
      have b39 : 0 ≤ (s0 808) ∧ (s0 808) ≤ 30 := hS0 808
      have b40 : 0 ≤ (s0 809) ∧ (s0 809) ≤ 64 := hS0 809
      refine e_tellPlane_L66 (Zi := Zi) (q := q) (n := n0) (D := D0) (s := (us s0 1207 r18)) (p := p22) (c := c23) hd hz (by omega) FK28.1 (bS_us hS0 (show 0 ≤ r18 ∧ r18 ≤ 12288 by omega)) hC23 hW24 Z (s 101) S R U U2 a_ y (by omega) (by omega) (show r18 + (s0 1206) ≤ (ln D0 (p22 1205) : Int) ∧ 1 ≤ (s0 1206) by omega) hz0 hq4 (fun xx h1 h2 => by rw [fk_k (k := 104) kf26 (by decide), fk_k (k := 104) hK0 (by decide)]; have h := hq5 y (by omega) (by omega) xx h1 (by have h2 : xx < s0 1206 := h2; omega); rw [← h]; congr 1; show (r18 + xx).toNat = _; rw [hrs]; congr 1; omega) ((g25 1205 (by decide)).trans ((hP0 1205 (by decide)).trans (hq6.trans ((hP0 104 (by decide)).symm.trans (g25 104 (by decide)).symm)))) (fun yy h1 h2 xx h3 h4 => hq7 yy h1 h2 xx h3 (by have h4 : xx < s0 1206 := h4; omega)) (show U2 + 457600 ≤ 1834000 ∧ y < (s 101) ∧ (s 101) ≤ 64 by omega)  ?_ _ 0 n0 D0 (us s0 1207 r18) p22 c23 (by omega) (bS_us hS0 (show 0 ≤ r18 ∧ r18 ≤ 12288 by omega)) fr_rf hC23 hW24 frp_rf ext_rf (fk_rf FK28.1) (wo_us (by decide) hc_wo) (show 7 * (s0 401) - (s0 1602) ≤ U2 + 110 * 0 + 7150 * y by omega) (by have e6 : s0 1206 = s 1206 := hF0 1206 (by decide); have em : min 0 (s 1206) = 0 := (by omega); exact ⟨X, (by show plI Z (s0 1206) (s 101) S R U y (min 0 (s0 1206)) X; rw [e6, em]; exact hI), hx30, hx31, hpc, (by show hrl (X.2.2.2, s0 1206, min 0 (s0 1206), y) _ _; rw [e6, em]; exact hhr)⟩) (Nat.lt_succ_self _)
      intro x41 n42 D43 s44 p45 c46 b47 hS44 f48 hC46 hW49 g50 xe51 kf52 hc53 i54 i55 hx56
      show tt Zi d 32 (139, [some (.inr (.inl 12)), some (.inr (.inl 1)), some (.inl a_), some (.inl y), some (.inl x41)], [], n42, D43, s44, p45, c46) _
      have FK57 : fk p c n42 p45 c46 [400, 901, 1203, 1204] := fk_tr FK28 kf52 (by decide)
      replace i54 : 7 * (s44 401) - (s44 1602) ≤ U2 + 110 * x41 + 7150 * y := i54
      have b58 : 0 ≤ (s44 401) ∧ (s44 401) ≤ 262144 := hS44 401
      have b59 : 1 ≤ (s44 1602) ∧ (s44 1602) ≤ 8 := hS44 1602
      replace hx56 : (s0 1206) ≤ x41 := hx56
      have e60 : s44 100 = (s0 100) := (f48 100 (by decide))
      have b61 : 1 ≤ (s44 100) ∧ (s44 100) ≤ 64 := hS44 100
      have e62 : s44 101 = (s0 101) := (f48 101 (by decide))
      have b63 : 1 ≤ (s44 101) ∧ (s44 101) ≤ 64 := hS44 101
      have e64 : s44 102 = (s0 102) := (f48 102 (by decide))
      have b65 : 1 ≤ (s44 102) ∧ (s44 102) ≤ 3 := hS44 102
      have e66 : s44 1206 = (s0 1206) := (f48 1206 (by decide))
      have b67 : 0 ≤ (s44 1206) ∧ (s44 1206) ≤ 64 := hS44 1206
      have e68 : s44 1207 = r18 := (f48 1207 (by decide))
      have b69 : 0 ≤ (s44 1207) ∧ (s44 1207) ≤ 12288 := hS44 1207
      have e70 : s44 801 = (s0 801) := (f48 801 (by decide))
      have b71 : -2147483648 ≤ (s44 801) ∧ (s44 801) ≤ 2147483647 := hS44 801
      have e72 : ln D43 (p45 1205) = ln D0 (p22 1205) := (congrArg (ln D43) (g50 1205 (by decide))).trans (ext_ln xe51 (arr_lt (hW24).s12.1))
      have hx73 : zq Z (s44 800) (s44 801) (s44 802) (s44 803) (s44 804) (s44 805) (s44 806) (s44 807) (s44 808) (s44 809) := by rw [f48 800 (by decide), f48 801 (by decide), f48 802 (by decide), f48 803 (by decide), f48 804 (by decide), f48 805 (by decide), f48 806 (by decide), f48 807 (by decide), f48 808 (by decide), f48 809 (by decide)]; exact hz0
      have hr0 : plC Z (s 101) S R U y x41 (s 1206) (s44 902) (s44 401) (s44 1601) (s44 1602) (c46 (p45 400)) (c46 (p45 901)) (c46 (p45 1204)) (c46 (p45 1203)) := by have h := i55; have e6 : s0 1206 = s 1206 := hF0 1206 (by decide); exact e6 ▸ h
      obtain ⟨X9, hI9, hwr9, hmr9, hpc9, hhr9⟩ := hr0
      have hm9 : min x41 (s 1206) = s 1206 := by omega
      rw [hm9] at hI9 hhr9
      refine tt_k 1 (S' := (140, [some (.inr (.inl 12)), some (.inr (.inl 1)), some (.inl a_), some (.inl y), some (.inl x41)], [.inr (.inl 12)], n42, D43, s44, p45, c46)) rfl ?_
      refine tt_cl (by omega) rfl (g_closeRow12 (Zi := Zi) (q := q) (n := n42) (D := D43) (s := s44) (p := p45) (c := c46) (by omega) hz (by omega) FK57.1 hS44 hC46 hW49 ) ?_
      rintro _ _ ⟨rfl, rfl⟩
      show tt Zi d 32 (143, [some (.inr (.inl 12)), some (.inr (.inl 1)), some (.inl a_), some (.inl y), some (.inl x41)], [], n42, D43, s44, p45, c46) _
      refine tt_k 2 (S' := (40, [some (.inr (.inl 12)), some (.inr (.inl 1)), some (.inl a_), some (.inl (y + 1)), some (.inl x41)], [], n42, D43, s44, p45, c46)) rfl ?_
      exact ih (y + 1) (some (.inl x41)) n42 D43 s44 p45 c46 (by omega) hS44 (fr_tr (fr_us (by decide) hF0) f48 (by decide)) hC46 hW49 (frp_tr (frp_tr hP0 g25 (by decide)) g50 (by decide)) (ext_tr hE0 xe51) FK57 hc53 (show (y + 1) ≤ s 101 by omega) (show 7 * (s44 401) - (s44 1602) ≤ U2 + 7150 * (y + 1) by omega) ⟨X9, plI_r hI9 (by omega) (by omega) (by omega) (by omega), hwr9, hmr9, hpc9, hr_e hhr9 (by omega) (by omega)⟩ (show (s 101 - (y + 1)).toNat < m by omega)
