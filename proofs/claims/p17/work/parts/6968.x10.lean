/-! the reference packs, exactly -/
def cva (w h most : Int) (f : Nat → Int) (pl : Int) : Prop := ∃ pp k : Int, (0 ≤ pp ∧ pp < pl) ∧ (0 ≤ k ∧ k < w * h) ∧ most < f (4096 * pp + 64 * (k / w) + k % w).toNat
theorem AB_r {E : Int → Int → Int → Int} {w h pl mo : Int} {f : Nat → Int} (hE : cr E w h pl f) (hw : 1 ≤ w) (hh : 1 ≤ h) (h0 : cva w h mo f pl) : ¬ AB E w h pl mo := by
  obtain ⟨a, k, ha, ⟨k0, k1⟩, hv⟩ := h0
  intro hA
  have x0 := Int.emod_nonneg k (show w ≠ 0 by omega)
  have x1 := Int.emod_lt_of_pos k (show 0 < w by omega)
  have d0 : 0 ≤ k / w := Int.ediv_nonneg k0 (by omega)
  have d1 : k / w < h := Int.ediv_lt_of_lt_mul (by omega) (by rw [Int.mul_comm]; exact k1)
  have h1 := hA a (k / w) (k % w) ha ⟨d0, d1⟩ ⟨x0, x1⟩
  rw [← hE a (k / w) (k % w) ha ⟨d0, d1⟩ ⟨x0, x1⟩] at h1
  omega
theorem AB_y {E : Int → Int → Int → Int} {w h pl mo : Int} {f : Nat → Int} (hE : cr E w h pl f) (h0 : cvp w h mo f pl) : AB E w h pl mo := by
  intro a y x ha hy hx
  rw [← hE a y x ha hy hx]
  exact cvp_use h0 ha.1 ha.2 hx.1 hx.2 hy.1 hy.2
set_option maxRecDepth 100000 in
set_option maxHeartbeats 4000000 in
theorem x_packC_L328 {Zi : Nat → Option (Nat × (Nat → Int))} {d n : Nat} {D : Nat → Nat × Nat} {s : Nat → Int} {p : Nat → Nat} {c : Nat → Nat → Int} {o_1 : Option mi_V} {o_2 : Option mi_V} {Q : mi_Rs → mi_H → Prop} (hd : 7 ≤ d) (hS : bS s) (hC : bC D c) (Z : Nat → Int) (E : Int → Int → Int → Int) (R : WT) (RK : MT) (hc_mv : mv s) (hq0 : cr E (s 3037) (s 3038) (s 3003) (c 31)) (hq1 : s 3036 = 1 ∧ s 3050 = 0 ∧ 1 ≤ s 3037) (hq2 : ∀ a y x : Int, (0 ≤ a ∧ a < s 3003) → (0 ≤ y ∧ y < s 3038) → (0 ≤ x ∧ x < s 3037) → 0 ≤ E a y x ∧ E a y x ≤ Z 3017) (hq3 : zq Z (s 3017) (s 3018) (s 3019) (s 3020) (s 3021) (s 3022) (s 3023) (s 3024) (s 3025) (s 3026)) (hq4 : mv Z)
  (hK : ∀ (q : Int) (s0 : Nat → Int) (c0 : Nat → Nat → Int) (b_q : 0 ≤ q ∧ q ≤ 3) (hS0 : bS s0) (hF0 : fr s s0 [3016, 3035, 3039, 3041, 3042, 3043, 3044, 3045, 3046, 3047, 3048]) (hC0 : bC D c0) (hG0 : frc c c0 [35, 36, 37, 38, 39, 40, 41, 42, 43, 44]) (i0 : 262144 * s0 3016 ≤ 16777216 + q * 5682000000) (i1 : q ≤ s 3003) (i2 : ∃ W1 K1, wrb W1 (s0 3016) (c0 35) ∧ pPl Z (s 3037) (s 3038) E (Z 3018) (s 3003 - q).toNat q W1 = R ∧ mrl K1 (c0 40) (c0 41) (c0 42) (c0 43) ∧ pKp Z (s 3037) (s 3038) E (Z 3018) (s 3003 - q).toNat q W1 K1 = RK), (s 3003 ≤ q) → tt Zi d 143 (418, [some (.inr (.inl 30)), o_1, o_2, some (.inl q)], [], n, D, s0, p, c0) Q) :
  ∀ (m : Nat) (q : Int) (s0 : Nat → Int) (c0 : Nat → Nat → Int) (b_q : 0 ≤ q ∧ q ≤ 3) (hS0 : bS s0) (hF0 : fr s s0 [3016, 3035, 3039, 3041, 3042, 3043, 3044, 3045, 3046, 3047, 3048]) (hC0 : bC D c0) (hG0 : frc c c0 [35, 36, 37, 38, 39, 40, 41, 42, 43, 44]) (i0 : 262144 * s0 3016 ≤ 16777216 + q * 5682000000) (i1 : q ≤ s 3003) (i2 : ∃ W1 K1, wrb W1 (s0 3016) (c0 35) ∧ pPl Z (s 3037) (s 3038) E (Z 3018) (s 3003 - q).toNat q W1 = R ∧ mrl K1 (c0 40) (c0 41) (c0 42) (c0 43) ∧ pKp Z (s 3037) (s 3038) E (Z 3018) (s 3003 - q).toNat q W1 K1 = RK), (s 3003 - q).toNat < m → tt Zi d 143 (328, [some (.inr (.inl 30)), o_1, o_2, some (.inl q)], [], n, D, s0, p, c0) Q := by
  intro m
  induction m with
  | zero => intro q s0 c0 b_q hS0 hF0 hC0 hG0 i0 i1 i2 hm; exact absurd hm (by omega)
  | succ m ih =>
    intro q s0 c0 b_q hS0 hF0 hC0 hG0 i0 i1 i2 hm
    have e1 : s0 3036 = s 3036 := hF0 3036 (by decide)
    have b2 : 0 ≤ (s0 3036) ∧ (s0 3036) ≤ 1 := hS0 3036
    have b3 : 0 ≤ (s 3036) ∧ (s 3036) ≤ 1 := hS 3036
    have e4 : s0 3050 = s 3050 := hF0 3050 (by decide)
    have b5 : 0 ≤ (s0 3050) ∧ (s0 3050) ≤ 8 := hS0 3050
    have b6 : 0 ≤ (s 3050) ∧ (s 3050) ≤ 8 := hS 3050
    have e7 : s0 3003 = s 3003 := hF0 3003 (by decide)
    have b8 : 1 ≤ (s0 3003) ∧ (s0 3003) ≤ 3 := hS0 3003
    have b9 : 1 ≤ (s 3003) ∧ (s 3003) ≤ 3 := hS 3003
    have e10 : s0 3062 = s 3062 := hF0 3062 (by decide)
    have b11 : 0 ≤ (s0 3062) ∧ (s0 3062) ≤ 8 := hS0 3062
    have b12 : 0 ≤ (s 3062) ∧ (s 3062) ≤ 8 := hS 3062
    have e13 : s0 3037 = s 3037 := hF0 3037 (by decide)
    have b14 : 0 ≤ (s0 3037) ∧ (s0 3037) ≤ 64 := hS0 3037
    have b15 : 0 ≤ (s 3037) ∧ (s 3037) ≤ 64 := hS 3037
    have hc0_mv : mv s0 := mv_fr hF0 (by decide) hc_mv
    obtain ⟨W1, K1, hw1, hw2, hk1, hk2⟩ := i2
    have hz0 : zq Z (s0 3017) (s0 3018) (s0 3019) (s0 3020) (s0 3021) (s0 3022) (s0 3023) (s0 3024) (s0 3025) (s0 3026) := by rw [hF0 3017 (by decide), hF0 3018 (by decide), hF0 3019 (by decide), hF0 3020 (by decide), hF0 3021 (by decide), hF0 3022 (by decide), hF0 3023 (by decide), hF0 3024 (by decide), hF0 3025 (by decide), hF0 3026 (by decide)]; exact hq3
    have mvx := mv_fx (s := Z) hq4
    have b16 : 0 ≤ (s 3038) ∧ (s 3038) ≤ 64 := hS 3038
    refine tt_k 3 (S' := (333, [some (.inr (.inl 30)), o_1, o_2, some (.inl q)], [.inl (s0 3003), .inl q], n, D, s0, p, c0)) rfl ?_
    refine tb_ge (x := q) (y := (s0 3003)) rfl rfl (by omega) (fun h17 => ?_) (fun h17 => ?_)
    · show tt Zi d 143 (418, [some (.inr (.inl 30)), o_1, o_2, some (.inl q)], [], n, D, s0, p, c0) _
      exact hK q s0 c0 (by omega) hS0 hF0 hC0 hG0 (show 262144 * (s0 3016) ≤ 16777216 + q * 5682000000 by omega) (show q ≤ s 3003 by omega) ⟨W1, K1, hw1, hw2, hk1, hk2⟩ (by omega)
    · show tt Zi d 143 (336, [some (.inr (.inl 30)), o_1, o_2, some (.inl q)], [], n, D, s0, p, c0) _
      refine tt_k 2 (S' := (340, [some (.inr (.inl 30)), o_1, o_2, some (.inl q)], [.inl 218, .inr (.inl 30)], n, D, s0, p, c0)) rfl ?_
      have b18 : 0 ≤ (s0 3016) ∧ (s0 3016) ≤ 65536 := hS0 3016
      refine tt_cl (by omega) rfl (y_mark (Zi := Zi) (D := D) (s := s0) (p := p) (c := c0) (by omega) hS0 hC0 W1 218 (by omega) (show (s0 3016) ≤ 65534 by omega) hw1) ?_
      rintro _ _ ⟨s19, c20, rfl, rfl, hS19, hC20, f21, g22, k23, k24⟩
      have hc25 : mv s19 := mv_fr f21 (by decide) hc0_mv
      show tt Zi d 143 (343, [some (.inr (.inl 30)), o_1, o_2, some (.inl q)], [], n, D, s19, p, c20) _
      replace k23 : (s19 3016) = (s0 3016) + 2 := k23
      replace k24 : wrb (wAdd (wAdd W1 255) 218) ((s19 3016)) ((c20 35)) := k24
      have b26 : 0 ≤ (s19 3016) ∧ (s19 3016) ≤ 65536 := hS19 3016
      have e27 : s19 3036 = (s0 3036) := (f21 3036 (by decide))
      have b28 : 0 ≤ (s19 3036) ∧ (s19 3036) ≤ 1 := hS19 3036
      have e29 : s19 3050 = (s0 3050) := (f21 3050 (by decide))
      have b30 : 0 ≤ (s19 3050) ∧ (s19 3050) ≤ 8 := hS19 3050
      have e31 : s19 3003 = (s0 3003) := (f21 3003 (by decide))
      have b32 : 1 ≤ (s19 3003) ∧ (s19 3003) ≤ 3 := hS19 3003
      have e33 : s19 3062 = (s0 3062) := (f21 3062 (by decide))
      have b34 : 0 ≤ (s19 3062) ∧ (s19 3062) ≤ 8 := hS19 3062
      have e35 : s19 3037 = (s0 3037) := (f21 3037 (by decide))
      have b36 : 0 ≤ (s19 3037) ∧ (s19 3037) ≤ 64 := hS19 3037
      have hx37 : zq Z (s19 3017) (s19 3018) (s19 3019) (s19 3020) (s19 3021) (s19 3022) (s19 3023) (s19 3024) (s19 3025) (s19 3026) := by rw [f21 3017 (by decide), f21 3018 (by decide), f21 3019 (by decide), f21 3020 (by decide), f21 3021 (by decide), f21 3022 (by decide), f21 3023 (by decide), f21 3024 (by decide), f21 3025 (by decide), f21 3026 (by decide)]; exact hz0
      refine tt_k 2 (S' := (346, [some (.inr (.inl 30)), o_1, o_2, some (.inl q)], [.inl 8, .inr (.inl 30)], n, D, s19, p, c20)) rfl ?_
      refine tt_cl (by omega) rfl (y_two (Zi := Zi) (D := D) (s := s19) (p := p) (c := c20) (by omega) hS19 hC20 (wAdd (wAdd W1 255) 218) 8 (by omega) (show (s19 3016) ≤ 65534 by omega) k24) ?_
      rintro _ _ ⟨s38, c39, rfl, rfl, hS38, hC39, f40, g41, k42, k43⟩
      have hc44 : mv s38 := mv_fr f40 (by decide) hc25
      show tt Zi d 143 (349, [some (.inr (.inl 30)), o_1, o_2, some (.inl q)], [], n, D, s38, p, c39) _
      replace k42 : (s38 3016) = (s19 3016) + 2 := k42
      replace k43 : wrb (wAdd (wAdd (wAdd (wAdd W1 255) 218) (mi_shr 8 8)) 8) ((s38 3016)) ((c39 35)) := k43
      have b45 : 0 ≤ (s38 3016) ∧ (s38 3016) ≤ 65536 := hS38 3016
      have e46 : s38 3036 = (s19 3036) := (f40 3036 (by decide))
      have b47 : 0 ≤ (s38 3036) ∧ (s38 3036) ≤ 1 := hS38 3036
      have e48 : s38 3050 = (s19 3050) := (f40 3050 (by decide))
      have b49 : 0 ≤ (s38 3050) ∧ (s38 3050) ≤ 8 := hS38 3050
      have e50 : s38 3003 = (s19 3003) := (f40 3003 (by decide))
      have b51 : 1 ≤ (s38 3003) ∧ (s38 3003) ≤ 3 := hS38 3003
      have e52 : s38 3062 = (s19 3062) := (f40 3062 (by decide))
      have b53 : 0 ≤ (s38 3062) ∧ (s38 3062) ≤ 8 := hS38 3062
      have e54 : s38 3037 = (s19 3037) := (f40 3037 (by decide))
      have b55 : 0 ≤ (s38 3037) ∧ (s38 3037) ≤ 64 := hS38 3037
      have hx56 : zq Z (s38 3017) (s38 3018) (s38 3019) (s38 3020) (s38 3021) (s38 3022) (s38 3023) (s38 3024) (s38 3025) (s38 3026) := by rw [f40 3017 (by decide), f40 3018 (by decide), f40 3019 (by decide), f40 3020 (by decide), f40 3021 (by decide), f40 3022 (by decide), f40 3023 (by decide), f40 3024 (by decide), f40 3025 (by decide), f40 3026 (by decide)]; exact hx37
      refine tt_k 2 (S' := (351, [some (.inr (.inl 30)), o_1, o_2, some (.inl q)], [.inl 1, .inr (.inl 30)], n, D, s38, p, c39)) rfl ?_
      refine tt_cl (by omega) rfl (y_add (Zi := Zi) (D := D) (s := s38) (p := p) (c := c39) (by omega) hS38 hC39 (wAdd (wAdd (wAdd (wAdd W1 255) 218) (mi_shr 8 8)) 8) 1 (by omega) (show (s38 3016) ≤ 65535 by omega) k43) ?_
      rintro _ _ ⟨s57, c58, rfl, rfl, hS57, hC58, f59, g60, k61, k62⟩
      have hc63 : mv s57 := mv_fr f59 (by decide) hc44
      show tt Zi d 143 (354, [some (.inr (.inl 30)), o_1, o_2, some (.inl q)], [], n, D, s57, p, c58) _
      replace k61 : (s57 3016) = (s38 3016) + 1 := k61
      replace k62 : wrb (wAdd (wAdd (wAdd (wAdd (wAdd W1 255) 218) (mi_shr 8 8)) 8) 1) ((s57 3016)) ((c58 35)) := k62
      have b64 : 0 ≤ (s57 3016) ∧ (s57 3016) ≤ 65536 := hS57 3016
      have e65 : s57 3036 = (s38 3036) := (f59 3036 (by decide))
      have b66 : 0 ≤ (s57 3036) ∧ (s57 3036) ≤ 1 := hS57 3036
      have e67 : s57 3050 = (s38 3050) := (f59 3050 (by decide))
      have b68 : 0 ≤ (s57 3050) ∧ (s57 3050) ≤ 8 := hS57 3050
      have e69 : s57 3003 = (s38 3003) := (f59 3003 (by decide))
      have b70 : 1 ≤ (s57 3003) ∧ (s57 3003) ≤ 3 := hS57 3003
      have e71 : s57 3062 = (s38 3062) := (f59 3062 (by decide))
      have b72 : 0 ≤ (s57 3062) ∧ (s57 3062) ≤ 8 := hS57 3062
      have e73 : s57 3037 = (s38 3037) := (f59 3037 (by decide))
      have b74 : 0 ≤ (s57 3037) ∧ (s57 3037) ≤ 64 := hS57 3037
      have hx75 : zq Z (s57 3017) (s57 3018) (s57 3019) (s57 3020) (s57 3021) (s57 3022) (s57 3023) (s57 3024) (s57 3025) (s57 3026) := by rw [f59 3017 (by decide), f59 3018 (by decide), f59 3019 (by decide), f59 3020 (by decide), f59 3021 (by decide), f59 3022 (by decide), f59 3023 (by decide), f59 3024 (by decide), f59 3025 (by decide), f59 3026 (by decide)]; exact hx56
      refine tt_k 4 (S' := (358, [some (.inr (.inl 30)), o_1, o_2, some (.inl q)], [.inl (q + 1), .inr (.inl 30)], n, D, s57, p, c58)) rfl ?_
      refine tt_cl (by omega) rfl (y_add (Zi := Zi) (D := D) (s := s57) (p := p) (c := c58) (by omega) hS57 hC58 (wAdd (wAdd (wAdd (wAdd (wAdd W1 255) 218) (mi_shr 8 8)) 8) 1) (q + 1) (by omega) (show (s57 3016) ≤ 65535 by omega) k62) ?_
      rintro _ _ ⟨s76, c77, rfl, rfl, hS76, hC77, f78, g79, k80, k81⟩
      have hc82 : mv s76 := mv_fr f78 (by decide) hc63
      show tt Zi d 143 (361, [some (.inr (.inl 30)), o_1, o_2, some (.inl q)], [], n, D, s76, p, c77) _
      replace k80 : (s76 3016) = (s57 3016) + 1 := k80
      replace k81 : wrb (wAdd (wAdd (wAdd (wAdd (wAdd (wAdd W1 255) 218) (mi_shr 8 8)) 8) 1) (q + 1)) ((s76 3016)) ((c77 35)) := k81
      have b83 : 0 ≤ (s76 3016) ∧ (s76 3016) ≤ 65536 := hS76 3016
      have e84 : s76 3036 = (s57 3036) := (f78 3036 (by decide))
      have b85 : 0 ≤ (s76 3036) ∧ (s76 3036) ≤ 1 := hS76 3036
      have e86 : s76 3050 = (s57 3050) := (f78 3050 (by decide))
      have b87 : 0 ≤ (s76 3050) ∧ (s76 3050) ≤ 8 := hS76 3050
      have e88 : s76 3003 = (s57 3003) := (f78 3003 (by decide))
      have b89 : 1 ≤ (s76 3003) ∧ (s76 3003) ≤ 3 := hS76 3003
      have e90 : s76 3062 = (s57 3062) := (f78 3062 (by decide))
      have b91 : 0 ≤ (s76 3062) ∧ (s76 3062) ≤ 8 := hS76 3062
      have e92 : s76 3037 = (s57 3037) := (f78 3037 (by decide))
      have b93 : 0 ≤ (s76 3037) ∧ (s76 3037) ≤ 64 := hS76 3037
      have hx94 : zq Z (s76 3017) (s76 3018) (s76 3019) (s76 3020) (s76 3021) (s76 3022) (s76 3023) (s76 3024) (s76 3025) (s76 3026) := by rw [f78 3017 (by decide), f78 3018 (by decide), f78 3019 (by decide), f78 3020 (by decide), f78 3021 (by decide), f78 3022 (by decide), f78 3023 (by decide), f78 3024 (by decide), f78 3025 (by decide), f78 3026 (by decide)]; exact hx75
      refine tt_k 2 (S' := (363, [some (.inr (.inl 30)), o_1, o_2, some (.inl q)], [.inl 0, .inr (.inl 30)], n, D, s76, p, c77)) rfl ?_
      refine tt_cl (by omega) rfl (y_add (Zi := Zi) (D := D) (s := s76) (p := p) (c := c77) (by omega) hS76 hC77 (wAdd (wAdd (wAdd (wAdd (wAdd (wAdd W1 255) 218) (mi_shr 8 8)) 8) 1) (q + 1)) 0 (by omega) (show (s76 3016) ≤ 65535 by omega) k81) ?_
      rintro _ _ ⟨s95, c96, rfl, rfl, hS95, hC96, f97, g98, k99, k100⟩
      have hc101 : mv s95 := mv_fr f97 (by decide) hc82
      show tt Zi d 143 (366, [some (.inr (.inl 30)), o_1, o_2, some (.inl q)], [], n, D, s95, p, c96) _
      replace k99 : (s95 3016) = (s76 3016) + 1 := k99
      replace k100 : wrb (wAdd (wAdd (wAdd (wAdd (wAdd (wAdd (wAdd W1 255) 218) (mi_shr 8 8)) 8) 1) (q + 1)) 0) ((s95 3016)) ((c96 35)) := k100
      have b102 : 0 ≤ (s95 3016) ∧ (s95 3016) ≤ 65536 := hS95 3016
      have e103 : s95 3036 = (s76 3036) := (f97 3036 (by decide))
      have b104 : 0 ≤ (s95 3036) ∧ (s95 3036) ≤ 1 := hS95 3036
      have e105 : s95 3050 = (s76 3050) := (f97 3050 (by decide))
      have b106 : 0 ≤ (s95 3050) ∧ (s95 3050) ≤ 8 := hS95 3050
      have e107 : s95 3003 = (s76 3003) := (f97 3003 (by decide))
      have b108 : 1 ≤ (s95 3003) ∧ (s95 3003) ≤ 3 := hS95 3003
      have e109 : s95 3062 = (s76 3062) := (f97 3062 (by decide))
      have b110 : 0 ≤ (s95 3062) ∧ (s95 3062) ≤ 8 := hS95 3062
      have e111 : s95 3037 = (s76 3037) := (f97 3037 (by decide))
      have b112 : 0 ≤ (s95 3037) ∧ (s95 3037) ≤ 64 := hS95 3037
      have hx113 : zq Z (s95 3017) (s95 3018) (s95 3019) (s95 3020) (s95 3021) (s95 3022) (s95 3023) (s95 3024) (s95 3025) (s95 3026) := by rw [f97 3017 (by decide), f97 3018 (by decide), f97 3019 (by decide), f97 3020 (by decide), f97 3021 (by decide), f97 3022 (by decide), f97 3023 (by decide), f97 3024 (by decide), f97 3025 (by decide), f97 3026 (by decide)]; exact hx94
      refine tt_k 3 (S' := (371, [some (.inr (.inl 30)), o_1, o_2, some (.inl q)], [.inl (s95 3018), .inr (.inl 30)], n, D, s95, p, c96)) rfl ?_
      rw [show (s95 3018) = Z 3018 from hx113.2.1]
      show tt Zi d 143 (371, [some (.inr (.inl 30)), o_1, o_2, some (.inl q)], [.inl (Z 3018), .inr (.inl 30)], n, D, s95, p, c96) _
      refine tt_cl (by omega) rfl (y_add (Zi := Zi) (D := D) (s := s95) (p := p) (c := c96) (by omega) hS95 hC96 (wAdd (wAdd (wAdd (wAdd (wAdd (wAdd (wAdd W1 255) 218) (mi_shr 8 8)) 8) 1) (q + 1)) 0) (Z 3018) (by omega) (show (s95 3016) ≤ 65535 by omega) k100) ?_
      rintro _ _ ⟨s114, c115, rfl, rfl, hS114, hC115, f116, g117, k118, k119⟩
      have hc120 : mv s114 := mv_fr f116 (by decide) hc101
      show tt Zi d 143 (374, [some (.inr (.inl 30)), o_1, o_2, some (.inl q)], [], n, D, s114, p, c115) _
      replace k118 : (s114 3016) = (s95 3016) + 1 := k118
      replace k119 : wrb (wAdd (wAdd (wAdd (wAdd (wAdd (wAdd (wAdd (wAdd W1 255) 218) (mi_shr 8 8)) 8) 1) (q + 1)) 0) (Z 3018)) ((s114 3016)) ((c115 35)) := k119
      have b121 : 0 ≤ (s114 3016) ∧ (s114 3016) ≤ 65536 := hS114 3016
      have e122 : s114 3036 = (s95 3036) := (f116 3036 (by decide))
      have b123 : 0 ≤ (s114 3036) ∧ (s114 3036) ≤ 1 := hS114 3036
      have e124 : s114 3050 = (s95 3050) := (f116 3050 (by decide))
      have b125 : 0 ≤ (s114 3050) ∧ (s114 3050) ≤ 8 := hS114 3050
      have e126 : s114 3003 = (s95 3003) := (f116 3003 (by decide))
      have b127 : 1 ≤ (s114 3003) ∧ (s114 3003) ≤ 3 := hS114 3003
      have e128 : s114 3062 = (s95 3062) := (f116 3062 (by decide))
      have b129 : 0 ≤ (s114 3062) ∧ (s114 3062) ≤ 8 := hS114 3062
      have e130 : s114 3037 = (s95 3037) := (f116 3037 (by decide))
      have b131 : 0 ≤ (s114 3037) ∧ (s114 3037) ≤ 64 := hS114 3037
      have hx132 : zq Z (s114 3017) (s114 3018) (s114 3019) (s114 3020) (s114 3021) (s114 3022) (s114 3023) (s114 3024) (s114 3025) (s114 3026) := by rw [f116 3017 (by decide), f116 3018 (by decide), f116 3019 (by decide), f116 3020 (by decide), f116 3021 (by decide), f116 3022 (by decide), f116 3023 (by decide), f116 3024 (by decide), f116 3025 (by decide), f116 3026 (by decide)]; exact hx113
      refine tt_k 2 (S' := (376, [some (.inr (.inl 30)), o_1, o_2, some (.inl q)], [.inl 0, .inr (.inl 30)], n, D, s114, p, c115)) rfl ?_
      refine tt_cl (by omega) rfl (y_add (Zi := Zi) (D := D) (s := s114) (p := p) (c := c115) (by omega) hS114 hC115 (wAdd (wAdd (wAdd (wAdd (wAdd (wAdd (wAdd (wAdd W1 255) 218) (mi_shr 8 8)) 8) 1) (q + 1)) 0) (Z 3018)) 0 (by omega) (show (s114 3016) ≤ 65535 by omega) k119) ?_
      rintro _ _ ⟨s133, c134, rfl, rfl, hS133, hC134, f135, g136, k137, k138⟩
      have hc139 : mv s133 := mv_fr f135 (by decide) hc120
      show tt Zi d 143 (379, [some (.inr (.inl 30)), o_1, o_2, some (.inl q)], [], n, D, s133, p, c134) _
      replace k137 : (s133 3016) = (s114 3016) + 1 := k137
      replace k138 : wrb (wAdd (wAdd (wAdd (wAdd (wAdd (wAdd (wAdd (wAdd (wAdd W1 255) 218) (mi_shr 8 8)) 8) 1) (q + 1)) 0) (Z 3018)) 0) ((s133 3016)) ((c134 35)) := k138
      have b140 : 0 ≤ (s133 3016) ∧ (s133 3016) ≤ 65536 := hS133 3016
      have e141 : s133 3036 = (s114 3036) := (f135 3036 (by decide))
      have b142 : 0 ≤ (s133 3036) ∧ (s133 3036) ≤ 1 := hS133 3036
      have e143 : s133 3050 = (s114 3050) := (f135 3050 (by decide))
      have b144 : 0 ≤ (s133 3050) ∧ (s133 3050) ≤ 8 := hS133 3050
      have e145 : s133 3003 = (s114 3003) := (f135 3003 (by decide))
      have b146 : 1 ≤ (s133 3003) ∧ (s133 3003) ≤ 3 := hS133 3003
      have e147 : s133 3062 = (s114 3062) := (f135 3062 (by decide))
      have b148 : 0 ≤ (s133 3062) ∧ (s133 3062) ≤ 8 := hS133 3062
      have e149 : s133 3037 = (s114 3037) := (f135 3037 (by decide))
      have b150 : 0 ≤ (s133 3037) ∧ (s133 3037) ≤ 64 := hS133 3037
      have hx151 : zq Z (s133 3017) (s133 3018) (s133 3019) (s133 3020) (s133 3021) (s133 3022) (s133 3023) (s133 3024) (s133 3025) (s133 3026) := by rw [f135 3017 (by decide), f135 3018 (by decide), f135 3019 (by decide), f135 3020 (by decide), f135 3021 (by decide), f135 3022 (by decide), f135 3023 (by decide), f135 3024 (by decide), f135 3025 (by decide), f135 3026 (by decide)]; exact hx132
      refine tt_k 2 (S' := (381, [some (.inr (.inl 30)), o_1, o_2, some (.inl q)], [.inl 0, .inr (.inl 30)], n, D, s133, p, c134)) rfl ?_
      refine tt_cl (by omega) rfl (y_add (Zi := Zi) (D := D) (s := s133) (p := p) (c := c134) (by omega) hS133 hC134 (wAdd (wAdd (wAdd (wAdd (wAdd (wAdd (wAdd (wAdd (wAdd W1 255) 218) (mi_shr 8 8)) 8) 1) (q + 1)) 0) (Z 3018)) 0) 0 (by omega) (show (s133 3016) ≤ 65535 by omega) k138) ?_
      rintro _ _ ⟨s152, c153, rfl, rfl, hS152, hC153, f154, g155, k156, k157⟩
      have hc158 : mv s152 := mv_fr f154 (by decide) hc139
      show tt Zi d 143 (384, [some (.inr (.inl 30)), o_1, o_2, some (.inl q)], [], n, D, s152, p, c153) _
      replace k156 : (s152 3016) = (s133 3016) + 1 := k156
      replace k157 : wrb (wAdd (wAdd (wAdd (wAdd (wAdd (wAdd (wAdd (wAdd (wAdd (wAdd W1 255) 218) (mi_shr 8 8)) 8) 1) (q + 1)) 0) (Z 3018)) 0) 0) ((s152 3016)) ((c153 35)) := k157
      have b159 : 0 ≤ (s152 3016) ∧ (s152 3016) ≤ 65536 := hS152 3016
      have e160 : s152 3036 = (s133 3036) := (f154 3036 (by decide))
      have b161 : 0 ≤ (s152 3036) ∧ (s152 3036) ≤ 1 := hS152 3036
      have e162 : s152 3050 = (s133 3050) := (f154 3050 (by decide))
      have b163 : 0 ≤ (s152 3050) ∧ (s152 3050) ≤ 8 := hS152 3050
      have e164 : s152 3003 = (s133 3003) := (f154 3003 (by decide))
      have b165 : 1 ≤ (s152 3003) ∧ (s152 3003) ≤ 3 := hS152 3003
      have e166 : s152 3062 = (s133 3062) := (f154 3062 (by decide))
      have b167 : 0 ≤ (s152 3062) ∧ (s152 3062) ≤ 8 := hS152 3062
      have e168 : s152 3037 = (s133 3037) := (f154 3037 (by decide))
      have b169 : 0 ≤ (s152 3037) ∧ (s152 3037) ≤ 64 := hS152 3037
      have hx170 : zq Z (s152 3017) (s152 3018) (s152 3019) (s152 3020) (s152 3021) (s152 3022) (s152 3023) (s152 3024) (s152 3025) (s152 3026) := by rw [f154 3017 (by decide), f154 3018 (by decide), f154 3019 (by decide), f154 3020 (by decide), f154 3021 (by decide), f154 3022 (by decide), f154 3023 (by decide), f154 3024 (by decide), f154 3025 (by decide), f154 3026 (by decide)]; exact hx151
      refine tt_k 12 (S' := (405, [some (.inr (.inl 30)), o_1, o_2, some (.inl q)], [.inr (.inl 30)], n, D, (us (us (us s152 3039 (4096 * q)) 3047 0) 3048 8), p, c153)) rfl ?_
      have xW : s152 3037 = s 3037 := ((f154 3037 (by decide)).trans ((f135 3037 (by decide)).trans ((f116 3037 (by decide)).trans ((f97 3037 (by decide)).trans ((f78 3037 (by decide)).trans ((f59 3037 (by decide)).trans ((f40 3037 (by decide)).trans ((f21 3037 (by decide)).trans (hF0 3037 (by decide))))))))))
      have xH : s152 3038 = s 3038 := ((f154 3038 (by decide)).trans ((f135 3038 (by decide)).trans ((f116 3038 (by decide)).trans ((f97 3038 (by decide)).trans ((f78 3038 (by decide)).trans ((f59 3038 (by decide)).trans ((f40 3038 (by decide)).trans ((f21 3038 (by decide)).trans (hF0 3038 (by decide))))))))))
      have x31 : c153 31 = c 31 := ((g155 31 (by decide)).trans ((g136 31 (by decide)).trans ((g117 31 (by decide)).trans ((g98 31 (by decide)).trans ((g79 31 (by decide)).trans ((g60 31 (by decide)).trans ((g41 31 (by decide)).trans ((g22 31 (by decide)).trans (hG0 31 (by decide))))))))))
      have hV := k157
      have hVz : (pSc q (Z 3018) W1).2.1 = s152 3016 := hV.1
      have hbx := pX0_b (W := pSc q (Z 3018) W1) hq4
      unfold pX0 at hbx
      have hj0 := wJ_0 (Z := Z) (V := wAdd (wAdd (wAdd (wAdd (wAdd (pTwo (pMk W1 218) 8) 1) (q + 1)) 0) (Z 3018)) 0) (by have h : (wAdd (wAdd (wAdd (wAdd (wAdd (pTwo (pMk W1 218) 8) 1) (q + 1)) 0) (Z 3018)) 0).2.1 + 1 = s152 3016 := hVz; omega)
      have hwl := wrb_w hV 0 8
      have b171 : 0 ≤ (s152 3017) ∧ (s152 3017) ≤ 65535 := hS152 3017
      have b172 : -2147483648 ≤ (s152 3018) ∧ (s152 3018) ≤ 2147483647 := hS152 3018
      have b173 : -2147483648 ≤ (s152 3019) ∧ (s152 3019) ≤ 2147483647 := hS152 3019
      have b174 : -2147483648 ≤ (s152 3020) ∧ (s152 3020) ≤ 2147483647 := hS152 3020
      have b175 : -2147483648 ≤ (s152 3021) ∧ (s152 3021) ≤ 2147483647 := hS152 3021
      have b176 : 0 ≤ (s152 3022) ∧ (s152 3022) ≤ 65535 := hS152 3022
      have b177 : -2147483648 ≤ (s152 3023) ∧ (s152 3023) ≤ 2147483647 := hS152 3023
      have b178 : -2147483648 ≤ (s152 3024) ∧ (s152 3024) ≤ 2147483647 := hS152 3024
      have b179 : 0 ≤ (s152 3025) ∧ (s152 3025) ≤ 31 := hS152 3025
      have b180 : 0 ≤ (s152 3026) ∧ (s152 3026) ≤ 96 := hS152 3026
      have b181 : 0 ≤ (s152 3038) ∧ (s152 3038) ≤ 64 := hS152 3038
      refine tt_cl (by omega) rfl (x_plane (Zi := Zi) (D := D) (s := (us (us (us s152 3039 (4096 * q)) 3047 0) 3048 8)) (p := p) (c := c153) (by omega) (bS_us (bS_us (bS_us hS152 (show 0 ≤ (4096 * q) ∧ (4096 * q) ≤ 8192 by omega)) (show 0 ≤ 0 ∧ 0 ≤ 255 by omega)) (show 0 ≤ 8 ∧ 8 ≤ 8 by omega)) hC153 Z ((pSc q (Z 3018) W1).1, (pSc q (Z 3018) W1).2.1, 0, 8) (E q) (mv_us (by decide) (mv_us (by decide) (mv_us (by decide) hc158))) (show (s152 3036) = 1 ∧ (s152 3050) = 0 ∧ 1 ≤ (s152 3037) by omega) hx170 hq4 hwl (w_ok0 (Or.inr rfl)) (by rw [show (us (us (us s152 3039 (4096 * q)) 3047 0) 3048 8) 3038 = s 3038 from xH, show (us (us (us s152 3039 (4096 * q)) 3047 0) 3048 8) 3037 = s 3037 from xW, x31]; exact fun yy h1 h2 xx h3 h4 => hq0 q yy xx ⟨by omega, by omega⟩ ⟨h1, h2⟩ ⟨h3, h4⟩) (by rw [show (us (us (us s152 3039 (4096 * q)) 3047 0) 3048 8) 3038 = s 3038 from xH, show (us (us (us s152 3039 (4096 * q)) 3047 0) 3048 8) 3037 = s 3037 from xW]; exact fun yy h1 h2 xx h3 h4 => hq2 q yy xx ⟨by omega, by omega⟩ ⟨h1, h2⟩ ⟨h3, h4⟩) (by omega)) ?_
      rintro _ _ ⟨s182, c183, rfl, rfl, hS182, hC183, f184, g185, k186, k187, k188, k189⟩
      have hc190 : mv s182 := mv_fr f184 (by decide) (mv_us (by decide) (mv_us (by decide) (mv_us (by decide) hc158)))
      show tt Zi d 143 (408, [some (.inr (.inl 30)), o_1, o_2, some (.inl q)], [], n, D, s182, p, c183) _
      replace k186 : w_ok ((s182 3047)) ((s182 3048)) := k186
      replace k187 : wrl (plX Z ((s152 3037)) ((s152 3038)) (E q) 5000 0 0 (((pSc q (Z 3018) W1).1, (pSc q (Z 3018) W1).2.1, 0, 8), mB (Z 3024), 0, fun _ => 0)).1 ((s182 3016)) ((s182 3047)) ((s182 3048)) ((c183 35)) := k187
      replace k188 : mrl (plX Z ((s152 3037)) ((s152 3038)) (E q) 5000 0 0 (((pSc q (Z 3018) W1).1, (pSc q (Z 3018) W1).2.1, 0, 8), mB (Z 3024), 0, fun _ => 0)).2.1 ((c183 40)) ((c183 41)) ((c183 42)) ((c183 43)) := k188
      replace k189 : 262144 * (s182 3016) ≤ bX Z (((pSc q (Z 3018) W1).1, (pSc q (Z 3018) W1).2.1, 0, 8), mB (Z 3024), 0, fun _ => 0) + cb Z * 4096 := k189
      have b191 : 0 ≤ (s182 3047) ∧ (s182 3047) ≤ 255 := hS182 3047
      have b192 : 0 ≤ (s182 3048) ∧ (s182 3048) ≤ 8 := hS182 3048
      have b193 : 0 ≤ (s182 3016) ∧ (s182 3016) ≤ 65536 := hS182 3016
      have e194 : s182 3036 = (s152 3036) := (f184 3036 (by decide))
      have b195 : 0 ≤ (s182 3036) ∧ (s182 3036) ≤ 1 := hS182 3036
      have e196 : s182 3050 = (s152 3050) := (f184 3050 (by decide))
      have b197 : 0 ≤ (s182 3050) ∧ (s182 3050) ≤ 8 := hS182 3050
      have e198 : s182 3003 = (s152 3003) := (f184 3003 (by decide))
      have b199 : 1 ≤ (s182 3003) ∧ (s182 3003) ≤ 3 := hS182 3003
      have e200 : s182 3062 = (s152 3062) := (f184 3062 (by decide))
      have b201 : 0 ≤ (s182 3062) ∧ (s182 3062) ≤ 8 := hS182 3062
      have e202 : s182 3037 = (s152 3037) := (f184 3037 (by decide))
      have b203 : 0 ≤ (s182 3037) ∧ (s182 3037) ≤ 64 := hS182 3037
      have hx204 : zq Z (s182 3017) (s182 3018) (s182 3019) (s182 3020) (s182 3021) (s182 3022) (s182 3023) (s182 3024) (s182 3025) (s182 3026) := by rw [f184 3017 (by decide), f184 3018 (by decide), f184 3019 (by decide), f184 3020 (by decide), f184 3021 (by decide), f184 3022 (by decide), f184 3023 (by decide), f184 3024 (by decide), f184 3025 (by decide), f184 3026 (by decide)]; exact hx170
      have tw := k187
      rw [xH, xW] at tw
      have tk := k188
      rw [xH, xW] at tk
      have hsz9 := k189
      refine tt_k 1 (S' := (409, [some (.inr (.inl 30)), o_1, o_2, some (.inl q)], [.inr (.inl 30)], n, D, s182, p, c183)) rfl ?_
      refine tt_cl (by omega) rfl (x_flush (Zi := Zi) (D := D) (s := s182) (p := p) (c := c183) (by omega) hS182 hC183 (plX Z (s 3037) (s 3038) (E q) 5000 0 0 (((pSc q (Z 3018) W1).1, (pSc q (Z 3018) W1).2.1, 0, 8), mB (Z 3024), 0, fun _ => 0)).1 k186 (wJ_pl hj0) tw (show (s182 3016) ≤ 65500 by omega)) ?_
      rintro _ _ ⟨s205, c206, rfl, rfl, hS205, hC206, f207, g208, k209, k210⟩
      have hc211 : mv s205 := mv_fr f207 (by decide) hc190
      show tt Zi d 143 (412, [some (.inr (.inl 30)), o_1, o_2, some (.inl q)], [], n, D, s205, p, c206) _
      replace k209 : (s182 3016) ≤ (s205 3016) ∧ (s205 3016) ≤ (s182 3016) + 9 := k209
      replace k210 : wrb (wFin (plX Z (s 3037) (s 3038) (E q) 5000 0 0 (((pSc q (Z 3018) W1).1, (pSc q (Z 3018) W1).2.1, 0, 8), mB (Z 3024), 0, fun _ => 0)).1) ((s205 3016)) ((c206 35)) := k210
      have b212 : 0 ≤ (s205 3016) ∧ (s205 3016) ≤ 65536 := hS205 3016
      have e213 : s205 3036 = (s182 3036) := (f207 3036 (by decide))
      have b214 : 0 ≤ (s205 3036) ∧ (s205 3036) ≤ 1 := hS205 3036
      have e215 : s205 3050 = (s182 3050) := (f207 3050 (by decide))
      have b216 : 0 ≤ (s205 3050) ∧ (s205 3050) ≤ 8 := hS205 3050
      have e217 : s205 3003 = (s182 3003) := (f207 3003 (by decide))
      have b218 : 1 ≤ (s205 3003) ∧ (s205 3003) ≤ 3 := hS205 3003
      have e219 : s205 3062 = (s182 3062) := (f207 3062 (by decide))
      have b220 : 0 ≤ (s205 3062) ∧ (s205 3062) ≤ 8 := hS205 3062
      have e221 : s205 3037 = (s182 3037) := (f207 3037 (by decide))
      have b222 : 0 ≤ (s205 3037) ∧ (s205 3037) ≤ 64 := hS205 3037
      have hx223 : zq Z (s205 3017) (s205 3018) (s205 3019) (s205 3020) (s205 3021) (s205 3022) (s205 3023) (s205 3024) (s205 3025) (s205 3026) := by rw [f207 3017 (by decide), f207 3018 (by decide), f207 3019 (by decide), f207 3020 (by decide), f207 3021 (by decide), f207 3022 (by decide), f207 3023 (by decide), f207 3024 (by decide), f207 3025 (by decide), f207 3026 (by decide)]; exact hx204
      refine tt_k 2 (S' := (328, [some (.inr (.inl 30)), o_1, o_2, some (.inl (q + 1))], [], n, D, s205, p, c206)) rfl ?_
      rw [show (s 3003 - q).toNat = (s 3003 - (q + 1)).toNat + 1 by omega, pPl] at hw2
      unfold pX0 at hw2
      rw [show (s 3003 - q).toNat = (s 3003 - (q + 1)).toNat + 1 by omega, pKp] at hk2
      unfold pX0 at hk2
      exact ih (q + 1) s205 c206 (by omega) hS205 (fr_tr (fr_tr (fr_us (by decide) (fr_us (by decide) (fr_us (by decide) (fr_tr (fr_tr (fr_tr (fr_tr (fr_tr (fr_tr (fr_tr (fr_tr hF0 f21 (by decide)) f40 (by decide)) f59 (by decide)) f78 (by decide)) f97 (by decide)) f116 (by decide)) f135 (by decide)) f154 (by decide))))) f184 (by decide)) f207 (by decide)) hC206 (frc_tr (frc_tr (frc_tr (frc_tr (frc_tr (frc_tr (frc_tr (frc_tr (frc_tr (frc_tr hG0 g22 (by decide)) g41 (by decide)) g60 (by decide)) g79 (by decide)) g98 (by decide)) g117 (by decide)) g136 (by decide)) g155 (by decide)) g185 (by decide)) g208 (by decide)) (show 262144 * (s205 3016) ≤ 16777216 + (q + 1) * 5682000000 by omega) (show (q + 1) ≤ s 3003 by omega) ⟨_, _, k210, hw2, (by rw [show c206 40 = c183 40 from (g208 40 (by decide)), show c206 41 = c183 41 from (g208 41 (by decide)), show c206 42 = c183 42 from (g208 42 (by decide)), show c206 43 = c183 43 from (g208 43 (by decide))]; exact tk), hk2⟩ (show (s 3003 - (q + 1)).toNat < m by omega)
set_option maxRecDepth 100000 in
set_option maxHeartbeats 4000000 in
theorem x_packC {Zi : Nat → Option (Nat × (Nat → Int))} {d n : Nat} {D : Nat → Nat × Nat} {s : Nat → Int} {p : Nat → Nat} {c : Nat → Nat → Int} (hd : 7 ≤ d) (hS : bS s) (hC : bC D c) (Z : Nat → Int) (E : Int → Int → Int → Int) (W : WT) (K0 : MT) (nn : Int) (l2 : Int) (l3 : Int) (b_nn : -2147483648 ≤ nn ∧ nn ≤ 2147483647) (hp0 : mv s) (hp1 : s 3016 ≤ 64) (hp2 : cr E (s 3001) (s 3002) (s 3003) (c 31)) (hp3 : ∀ a y x : Int, (0 ≤ a ∧ a < s 3003) → (0 ≤ y ∧ y < s 3002) → (0 ≤ x ∧ x < s 3001) → 0 ≤ E a y x ∧ E a y x ≤ Z 3017) (hp4 : zq Z (s 3017) (s 3018) (s 3019) (s 3020) (s 3021) (s 3022) (s 3023) (s 3024) (s 3025) (s 3026)) (hp5 : mv Z) (hp6 : wrb W (s 3016) (c 35)) (hp7 : mrl K0 (c 40) (c 41) (c 42) (c 43)) : tt Zi d 143 (301, [some (.inr (.inl 30)), some (.inl nn), some (.inl l2), some (.inl l3)], [], n, D, s, p, c) (fun R H => ∃ (s' : Nat → Int) (c' : Nat → Nat → Int) (r : Int), R = .inl (some (.inl r)) ∧ H = (n, D, s', p, c') ∧ bS s' ∧ bC D c' ∧ fr s s' [3016, 3035, 3036, 3037, 3038, 3039, 3041, 3042, 3043, 3044, 3045, 3046, 3047, 3048, 3050, 3062] ∧ frc c c' [35, 36, 37, 38, 39, 40, 41, 42, 43, 44] ∧ (0 ≤ r ∧ r ≤ 65536) ∧ (wrb (pMk (pPl Z (s 3001) (s 3002) E (Z 3018) (s 3003).toNat 0 W) 217) (s' 3016) (c' 35)) ∧ (r = s' 3016) ∧ (mrl (pKp Z (s 3001) (s 3002) E (Z 3018) (s 3003).toNat 0 W K0) (c' 40) (c' 41) (c' 42) (c' 43))) := by
  have b1 : 1 ≤ (s 3001) ∧ (s 3001) ≤ 64 := hS 3001
  have b2 : 1 ≤ (s 3002) ∧ (s 3002) ≤ 64 := hS 3002
  have b3 : 1 ≤ (s 3003) ∧ (s 3003) ≤ 3 := hS 3003
  refine tt_k 12 (S' := (323, [some (.inr (.inl 30)), some (.inl nn), some (.inl l2), some (.inl l3)], [.inr (.inl 30)], n, D, (us (us (us s 3036 1) 3037 (s 3001)) 3038 (s 3002)), p, c)) rfl ?_
  refine tt_cl (by omega) rfl (k_fault0 (Zi := Zi) (D := D) (s := (us (us (us s 3036 1) 3037 (s 3001)) 3038 (s 3002))) (p := p) (c := c) (by omega) (bS_us (bS_us (bS_us hS (show 0 ≤ 1 ∧ 1 ≤ 1 by omega)) (show 0 ≤ (s 3001) ∧ (s 3001) ≤ 64 by omega)) (show 0 ≤ (s 3002) ∧ (s 3002) ≤ 64 by omega)) hC ) ?_
  rintro _ _ ⟨s4, rfl, rfl, hS4, f5, k6⟩
  have hc7 : mv s4 := mv_fr f5 (by decide) (mv_us (by decide) (mv_us (by decide) (mv_us (by decide) hp0)))
  show tt Zi d 143 (326, [some (.inr (.inl 30)), some (.inl nn), some (.inl l2), some (.inl l3)], [], n, D, s4, p, c) _
  replace k6 : (s4 3050) = 0 := k6
  have b8 : 0 ≤ (s4 3050) ∧ (s4 3050) ≤ 8 := hS4 3050
  have e9 : s4 3036 = 1 := (f5 3036 (by decide))
  have b10 : 0 ≤ (s4 3036) ∧ (s4 3036) ≤ 1 := hS4 3036
  have e11 : s4 3016 = (s 3016) := (f5 3016 (by decide))
  have b12 : 0 ≤ (s4 3016) ∧ (s4 3016) ≤ 65536 := hS4 3016
  have b13 : 0 ≤ (s 3016) ∧ (s 3016) ≤ 65536 := hS 3016
  have e14 : s4 3003 = (s 3003) := (f5 3003 (by decide))
  have b15 : 1 ≤ (s4 3003) ∧ (s4 3003) ≤ 3 := hS4 3003
  have e16 : s4 3037 = (s 3001) := (f5 3037 (by decide))
  have b17 : 0 ≤ (s4 3037) ∧ (s4 3037) ≤ 64 := hS4 3037
  have hx18 : zq Z (s4 3017) (s4 3018) (s4 3019) (s4 3020) (s4 3021) (s4 3022) (s4 3023) (s4 3024) (s4 3025) (s4 3026) := by rw [f5 3017 (by decide), f5 3018 (by decide), f5 3019 (by decide), f5 3020 (by decide), f5 3021 (by decide), f5 3022 (by decide), f5 3023 (by decide), f5 3024 (by decide), f5 3025 (by decide), f5 3026 (by decide)]; exact hp4
  have hx19 : wrb W (s4 3016) (c 35) := by rw [f5 3016 (by decide)]; exact hp6
  refine tt_k 2 (S' := (328, [some (.inr (.inl 30)), some (.inl nn), some (.inl l2), some (.inl 0)], [], n, D, s4, p, c)) rfl ?_
  have yW : s4 3037 = s 3001 := f5 3037 (by decide)
  have yH : s4 3038 = s 3002 := f5 3038 (by decide)
  have yP : s4 3003 = s 3003 := f5 3003 (by decide)
  have b20 : 0 ≤ (s4 3038) ∧ (s4 3038) ≤ 64 := hS4 3038
  have b21 : 0 ≤ (s4 3017) ∧ (s4 3017) ≤ 65535 := hS4 3017
  have b22 : -2147483648 ≤ (s4 3018) ∧ (s4 3018) ≤ 2147483647 := hS4 3018
  have b23 : -2147483648 ≤ (s4 3019) ∧ (s4 3019) ≤ 2147483647 := hS4 3019
  have b24 : -2147483648 ≤ (s4 3020) ∧ (s4 3020) ≤ 2147483647 := hS4 3020
  have b25 : -2147483648 ≤ (s4 3021) ∧ (s4 3021) ≤ 2147483647 := hS4 3021
  have b26 : 0 ≤ (s4 3022) ∧ (s4 3022) ≤ 65535 := hS4 3022
  have b27 : -2147483648 ≤ (s4 3023) ∧ (s4 3023) ≤ 2147483647 := hS4 3023
  have b28 : -2147483648 ≤ (s4 3024) ∧ (s4 3024) ≤ 2147483647 := hS4 3024
  have b29 : 0 ≤ (s4 3025) ∧ (s4 3025) ≤ 31 := hS4 3025
  have b30 : 0 ≤ (s4 3026) ∧ (s4 3026) ≤ 96 := hS4 3026
  refine x_packC_L328 (Zi := Zi) (D := D) (s := s4) (p := p) (c := c) hd hS4 hC Z E (pPl Z (s 3001) (s 3002) E (Z 3018) (s 3003).toNat 0 W) (pKp Z (s 3001) (s 3002) E (Z 3018) (s 3003).toNat 0 W K0)  hc7 (by rw [yW, yH, yP]; exact hp2) (show (s4 3036) = 1 ∧ (s4 3050) = 0 ∧ 1 ≤ (s4 3037) by omega) (by rw [yW, yH, yP]; exact hp3) hx18 hp5 ?_ _ 0 s4 c (by omega) hS4 fr_rf hC frc_rf (show 262144 * (s4 3016) ≤ 16777216 + 0 * 5682000000 by omega) (show 0 ≤ (s4 3003) by omega) ⟨_, _, hx19, by rw [Int.sub_zero, yW, yH, yP], (by rw [show c 40 = c 40 from rfl, show c 41 = c 41 from rfl, show c 42 = c 42 from rfl, show c 43 = c 43 from rfl]; exact hp7), by rw [Int.sub_zero, yW, yH, yP]⟩ (Nat.lt_succ_self _)
  intro x31 s32 c33 b34 hS32 f35 hC33 g36 i37 i38 i39 hx40
  show tt Zi d 143 (418, [some (.inr (.inl 30)), some (.inl nn), some (.inl l2), some (.inl x31)], [], n, D, s32, p, c33) _
  have hc41 : mv s32 := mv_fr f35 (by decide) hc7
  have e42 : s32 3036 = (s4 3036) := (f35 3036 (by decide))
  have b43 : 0 ≤ (s32 3036) ∧ (s32 3036) ≤ 1 := hS32 3036
  have e44 : s32 3050 = (s4 3050) := (f35 3050 (by decide))
  have b45 : 0 ≤ (s32 3050) ∧ (s32 3050) ≤ 8 := hS32 3050
  have e46 : s32 3003 = (s4 3003) := (f35 3003 (by decide))
  have b47 : 1 ≤ (s32 3003) ∧ (s32 3003) ≤ 3 := hS32 3003
  have e48 : s32 3062 = (s4 3062) := (f35 3062 (by decide))
  have b49 : 0 ≤ (s32 3062) ∧ (s32 3062) ≤ 8 := hS32 3062
  have b50 : 0 ≤ (s4 3062) ∧ (s4 3062) ≤ 8 := hS4 3062
  have e51 : s32 3037 = (s4 3037) := (f35 3037 (by decide))
  have b52 : 0 ≤ (s32 3037) ∧ (s32 3037) ≤ 64 := hS32 3037
  have hx53 : zq Z (s32 3017) (s32 3018) (s32 3019) (s32 3020) (s32 3021) (s32 3022) (s32 3023) (s32 3024) (s32 3025) (s32 3026) := by rw [f35 3017 (by decide), f35 3018 (by decide), f35 3019 (by decide), f35 3020 (by decide), f35 3021 (by decide), f35 3022 (by decide), f35 3023 (by decide), f35 3024 (by decide), f35 3025 (by decide), f35 3026 (by decide)]; exact hx18
  obtain ⟨W9, K9, hw9, hw8, hk9, hk8⟩ := i39
  rw [show (s4 3003 - x31).toNat = 0 by omega, pPl] at hw8
  rw [show (s4 3003 - x31).toNat = 0 by omega, pKp] at hk8
  refine tt_k 2 (S' := (422, [some (.inr (.inl 30)), some (.inl nn), some (.inl l2), some (.inl x31)], [.inl 217, .inr (.inl 30)], n, D, s32, p, c33)) rfl ?_
  have b54 : 0 ≤ (s32 3016) ∧ (s32 3016) ≤ 65536 := hS32 3016
  refine tt_cl (by omega) rfl (y_mark (Zi := Zi) (D := D) (s := s32) (p := p) (c := c33) (by omega) hS32 hC33 W9 217 (by omega) (show (s32 3016) ≤ 65534 by omega) hw9) ?_
  rintro _ _ ⟨s55, c56, rfl, rfl, hS55, hC56, f57, g58, k59, k60⟩
  have hc61 : mv s55 := mv_fr f57 (by decide) hc41
  show tt Zi d 143 (425, [some (.inr (.inl 30)), some (.inl nn), some (.inl l2), some (.inl x31)], [], n, D, s55, p, c56) _
  replace k59 : (s55 3016) = (s32 3016) + 2 := k59
  replace k60 : wrb (wAdd (wAdd W9 255) 217) ((s55 3016)) ((c56 35)) := k60
  have b62 : 0 ≤ (s55 3016) ∧ (s55 3016) ≤ 65536 := hS55 3016
  have e63 : s55 3036 = (s32 3036) := (f57 3036 (by decide))
  have b64 : 0 ≤ (s55 3036) ∧ (s55 3036) ≤ 1 := hS55 3036
  have e65 : s55 3050 = (s32 3050) := (f57 3050 (by decide))
  have b66 : 0 ≤ (s55 3050) ∧ (s55 3050) ≤ 8 := hS55 3050
  have e67 : s55 3003 = (s32 3003) := (f57 3003 (by decide))
  have b68 : 1 ≤ (s55 3003) ∧ (s55 3003) ≤ 3 := hS55 3003
  have e69 : s55 3062 = (s32 3062) := (f57 3062 (by decide))
  have b70 : 0 ≤ (s55 3062) ∧ (s55 3062) ≤ 8 := hS55 3062
  have e71 : s55 3037 = (s32 3037) := (f57 3037 (by decide))
  have b72 : 0 ≤ (s55 3037) ∧ (s55 3037) ≤ 64 := hS55 3037
  have hx73 : zq Z (s55 3017) (s55 3018) (s55 3019) (s55 3020) (s55 3021) (s55 3022) (s55 3023) (s55 3024) (s55 3025) (s55 3026) := by rw [f57 3017 (by decide), f57 3018 (by decide), f57 3019 (by decide), f57 3020 (by decide), f57 3021 (by decide), f57 3022 (by decide), f57 3023 (by decide), f57 3024 (by decide), f57 3025 (by decide), f57 3026 (by decide)]; exact hx53
  refine tt_k 6 (S' := (437, [some (.inr (.inl 30)), some (.inl nn), some (.inl l2), some (.inl x31)], [.inl (s55 3016)], n, D, (us s55 3050 (s55 3062)), p, c56)) rfl ?_
  exact tt_rti rfl rfl ⟨(us s55 3050 (s55 3062)), c56, (s55 3016), rfl, rfl, (bS_us hS55 (show 0 ≤ (s55 3062) ∧ (s55 3062) ≤ 8 by omega)), hC56, (fr_us (by decide) (fr_tr (fr_tr (fr_tr (fr_us (by decide) (fr_us (by decide) (fr_us (by decide) fr_rf))) f5 (by decide)) f35 (by decide)) f57 (by decide))), (frc_tr (frc_tr frc_rf g36 (by decide)) g58 (by decide)), by omega, by show wrb (pMk (pPl Z (s 3001) (s 3002) E (Z 3018) (s 3003).toNat 0 W) 217) ((s55 3016)) ((c56 35)); have h := k60; rw [hw8] at h; exact h, rfl, by show mrl (pKp Z (s 3001) (s 3002) E (Z 3018) (s 3003).toNat 0 W K0) ((c56 40)) ((c56 41)) ((c56 42)) ((c56 43)); rw [show c56 40 = c33 40 from (g58 40 (by decide)), show c56 41 = c33 41 from (g58 41 (by decide)), show c56 42 = c33 42 from (g58 42 (by decide)), show c56 43 = c33 43 from (g58 43 (by decide)), ← hk8]; exact hk9⟩
set_option maxRecDepth 100000 in
set_option maxHeartbeats 4000000 in
theorem x_pack_L44 {Zi : Nat → Option (Nat × (Nat → Int))} {d n : Nat} {D : Nat → Nat × Nat} {s : Nat → Int} {p : Nat → Nat} {c : Nat → Nat → Int} {o_1 : Option mi_V} {Q : mi_Rs → mi_H → Prop} (hd : 7 ≤ d) (hS : bS s) (hC : bC D c) (p_ : Int) (b_p_ : 0 ≤ p_ ∧ p_ ≤ 2) (hq0 : 0 ≤ s 3000 ∧ s 3000 ≤ 1) (hq1 : p_ < s 3003)
  (hK : ∀ (k_ : Int) (s0 : Nat → Int) (b_k_ : 0 ≤ k_ ∧ k_ ≤ 4096) (hS0 : bS s0) (hF0 : fr s s0 [3000]) (i0 : s 3000 ≠ 0 → s0 3000 ≠ 0) (i1 : s0 3000 = 0 → cvk (s0 3001) (s0 3017) (c 31) p_ k_) (i2 : k_ ≤ s 3001 * s 3002) (i3 : s 3000 = 0 → s0 3000 ≠ 0 → cva (s0 3001) (s0 3002) (s0 3017) (c 31) (s 3003)) (i4 : 0 ≤ s0 3000 ∧ s0 3000 ≤ 1), (s 3001 * s 3002 ≤ k_) → tt Zi d 143 (109, [some (.inr (.inl 30)), o_1, some (.inl p_), some (.inl k_)], [], n, D, s0, p, c) Q) :
  ∀ (m : Nat) (k_ : Int) (s0 : Nat → Int) (b_k_ : 0 ≤ k_ ∧ k_ ≤ 4096) (hS0 : bS s0) (hF0 : fr s s0 [3000]) (i0 : s 3000 ≠ 0 → s0 3000 ≠ 0) (i1 : s0 3000 = 0 → cvk (s0 3001) (s0 3017) (c 31) p_ k_) (i2 : k_ ≤ s 3001 * s 3002) (i3 : s 3000 = 0 → s0 3000 ≠ 0 → cva (s0 3001) (s0 3002) (s0 3017) (c 31) (s 3003)) (i4 : 0 ≤ s0 3000 ∧ s0 3000 ≤ 1), (s 3001 * s 3002 - k_).toNat < m → tt Zi d 143 (44, [some (.inr (.inl 30)), o_1, some (.inl p_), some (.inl k_)], [], n, D, s0, p, c) Q := by
  intro m
  induction m with
  | zero => intro k_ s0 b_k_ hS0 hF0 i0 i1 i2 i3 i4 hm; exact absurd hm (by omega)
  | succ m ih =>
    intro k_ s0 b_k_ hS0 hF0 i0 i1 i2 i3 i4 hm
    have e1 : s0 3001 = s 3001 := hF0 3001 (by decide)
    have b2 : 1 ≤ (s0 3001) ∧ (s0 3001) ≤ 64 := hS0 3001
    have b3 : 1 ≤ (s 3001) ∧ (s 3001) ≤ 64 := hS 3001
    have e4 : s0 3002 = s 3002 := hF0 3002 (by decide)
    have b5 : 1 ≤ (s0 3002) ∧ (s0 3002) ≤ 64 := hS0 3002
    have b6 : 1 ≤ (s 3002) ∧ (s 3002) ≤ 64 := hS 3002
    have e7 : s0 3017 = s 3017 := hF0 3017 (by decide)
    have b8 : 0 ≤ (s0 3017) ∧ (s0 3017) ≤ 65535 := hS0 3017
    have b9 : 0 ≤ (s 3017) ∧ (s 3017) ≤ 65535 := hS 3017
    have e10 : s0 3003 = s 3003 := hF0 3003 (by decide)
    have b11 : 1 ≤ (s0 3003) ∧ (s0 3003) ≤ 3 := hS0 3003
    have b12 : 1 ≤ (s 3003) ∧ (s 3003) ≤ 3 := hS 3003
    have e13 : s0 3004 = s 3004 := hF0 3004 (by decide)
    have b14 : 2 ≤ (s0 3004) ∧ (s0 3004) ≤ 16 := hS0 3004
    have b15 : 2 ≤ (s 3004) ∧ (s 3004) ≤ 16 := hS 3004
    have e16 : s0 3016 = s 3016 := hF0 3016 (by decide)
    have b17 : 0 ≤ (s0 3016) ∧ (s0 3016) ≤ 65536 := hS0 3016
    have b18 : 0 ≤ (s 3016) ∧ (s 3016) ≤ 65536 := hS 3016
    have hmu := mul_bd (e := s 3001) (st := s 3002) (a := 64) (b := 64) (by omega) (by omega) (by omega) (by omega) (by omega)
    have hme : s0 3001 * s0 3002 = s 3001 * s 3002 := by rw [hF0 3001 (by decide), hF0 3002 (by decide)]
    refine tt_k 6 (S' := (54, [some (.inr (.inl 30)), o_1, some (.inl p_), some (.inl k_)], [.inl ((s0 3001) * (s0 3002)), .inl k_], n, D, s0, p, c)) rfl ?_
    have m19 := mul_bd (e := (s0 3001)) (st := (s0 3002)) (a := 64) (b := 64) (by omega) (by omega) (by omega) (by omega) (by omega)
    refine tb_ge (x := k_) (y := ((s0 3001) * (s0 3002))) rfl rfl (by omega) (fun h20 => ?_) (fun h20 => ?_)
    · show tt Zi d 143 (109, [some (.inr (.inl 30)), o_1, some (.inl p_), some (.inl k_)], [], n, D, s0, p, c) _
      exact hK k_ s0 (by omega) hS0 hF0 i0 i1 i2 i3 i4 (by omega)
    · show tt Zi d 143 (57, [some (.inr (.inl 30)), o_1, some (.inl p_), some (.inl k_)], [], n, D, s0, p, c) _
      refine tt_k 10 (S' := (74, [some (.inr (.inl 30)), o_1, some (.inl p_), some (.inl k_)], [.inl (s0 3001), .inl k_, .inl 64, .inl (4096 * p_), .inr (.inl 31), .inr (.inl 30)], n, D, s0, p, c)) rfl ?_
      refine tt_dvp (x := k_) (y := (s0 3001)) rfl (by omega) ?_
      show tt Zi d 143 (75, [some (.inr (.inl 30)), o_1, some (.inl p_), some (.inl k_)], [.inl (k_ / (s0 3001)), .inl 64, .inl (4096 * p_), .inr (.inl 31), .inr (.inl 30)], n, D, s0, p, c) _
      have b21 : 0 ≤ (k_ / (s0 3001)) ∧ (k_ / (s0 3001)) ≤ k_ := td_le (by omega) (by omega)
      have b22 : (k_ / (s0 3001)) < s0 3002 := Int.ediv_lt_of_lt_mul (by omega) (by rw [Int.mul_comm]; omega)
      refine tt_k 5 (S' := (82, [some (.inr (.inl 30)), o_1, some (.inl p_), some (.inl k_)], [.inl (s0 3001), .inl k_, .inl (((4096 * p_) + (64 * (k_ / (s0 3001))))), .inr (.inl 31), .inr (.inl 30)], n, D, s0, p, c)) rfl ?_
      refine tt_rmp (x := k_) (y := (s0 3001)) rfl (by omega) ?_
      show tt Zi d 143 (83, [some (.inr (.inl 30)), o_1, some (.inl p_), some (.inl k_)], [.inl (k_ % (s0 3001)), .inl (((4096 * p_) + (64 * (k_ / (s0 3001))))), .inr (.inl 31), .inr (.inl 30)], n, D, s0, p, c) _
      have b23 : 0 ≤ (k_ % (s0 3001)) := Int.emod_nonneg _ (by omega)
      have b24 : (k_ % (s0 3001)) < (s0 3001) := Int.emod_lt_of_pos _ (by omega)
      refine tt_k 1 (S' := (84, [some (.inr (.inl 30)), o_1, some (.inl p_), some (.inl k_)], [.inl ((((4096 * p_) + (64 * (k_ / (s0 3001)))) + (k_ % (s0 3001)))), .inr (.inl 31), .inr (.inl 30)], n, D, s0, p, c)) rfl ?_
      refine tt_ildv (i := (((4096 * p_) + (64 * (k_ / (s0 3001)))) + (k_ % (s0 3001)))) (v := (c 31 ((((4096 * p_) + (64 * (k_ / (s0 3001)))) + (k_ % (s0 3001)))).toNat)) rfl rfl (by omega) rfl ?_
      show tt Zi d 143 (85, [some (.inr (.inl 30)), o_1, some (.inl p_), some (.inl k_)], [.inl ((c 31 ((((4096 * p_) + (64 * (k_ / (s0 3001)))) + (k_ % (s0 3001)))).toNat)), .inr (.inl 30)], n, D, s0, p, c) _
      have b25 : 0 ≤ (c 31 ((((4096 * p_) + (64 * (k_ / (s0 3001)))) + (k_ % (s0 3001)))).toNat) ∧ (c 31 ((((4096 * p_) + (64 * (k_ / (s0 3001)))) + (k_ % (s0 3001)))).toNat) ≤ 65535 := hC 31 _
      refine tt_k 2 (S' := (89, [some (.inr (.inl 30)), o_1, some (.inl p_), some (.inl k_)], [.inl (s0 3017), .inl ((c 31 ((((4096 * p_) + (64 * (k_ / (s0 3001)))) + (k_ % (s0 3001)))).toNat)), .inr (.inl 30)], n, D, s0, p, c)) rfl ?_
      have K27 : ∀ (j26 : Int) , (0 ≤ j26 ∧ j26 ≤ 2) → (((c 31 ((((4096 * p_) + (64 * (k_ / (s0 3001)))) + (k_ % (s0 3001)))).toNat) ≤ (s0 3017) ∧ j26 = (s0 3000)) ∨ ((s0 3017) < (c 31 ((((4096 * p_) + (64 * (k_ / (s0 3001)))) + (k_ % (s0 3001)))).toNat) ∧ j26 = 1)) → tt Zi d 143 (100, [some (.inr (.inl 30)), o_1, some (.inl p_), some (.inl k_)], [.inl j26, .inr (.inl 30)], n, D, s0, p, c) Q := by
        intro j26 b29 hj28
        have b30 : 0 ≤ (s0 3000) ∧ (s0 3000) ≤ 2 := hS0 3000
        refine tt_k 3 (S' := (44, [some (.inr (.inl 30)), o_1, some (.inl p_), some (.inl (k_ + 1))], [], n, D, (us s0 3000 j26), p, c)) rfl ?_
        exact ih (k_ + 1) (us s0 3000 j26) (by omega) (bS_us hS0 (show 0 ≤ j26 ∧ j26 ≤ 2 by omega)) (fr_us (by decide) hF0) (show s 3000 ≠ 0 → j26 ≠ 0 by omega) (fun hz => cvk_s (i1 (by have hz : j26 = 0 := hz; omega)) (by omega) (show c 31 (4096 * p_ + 64 * (k_ / s0 3001) + k_ % s0 3001).toNat ≤ s0 3017 by have hz : j26 = 0 := hz; omega)) (show (k_ + 1) ≤ s 3001 * s 3002 by omega) (fun h0 hz => if hk : s0 3000 = 0 then ⟨p_, k_, (show 0 ≤ p_ ∧ p_ < s 3003 by omega), (show 0 ≤ k_ ∧ k_ < s0 3001 * s0 3002 by omega), (show s0 3017 < c 31 (4096 * p_ + 64 * (k_ / s0 3001) + k_ % s0 3001).toNat by have hz : j26 ≠ 0 := hz; omega)⟩ else (by exact i3 h0 hk)) (show 0 ≤ j26 ∧ j26 ≤ 1 by omega) (show (s 3001 * s 3002 - (k_ + 1)).toNat < m by omega)
      refine tb_le (x := (c 31 ((((4096 * p_) + (64 * (k_ / (s0 3001)))) + (k_ % (s0 3001)))).toNat)) (y := (s0 3017)) rfl rfl (by omega) (fun h31 => ?_) (fun h31 => ?_)
      · show tt Zi d 143 (96, [some (.inr (.inl 30)), o_1, some (.inl p_), some (.inl k_)], [.inr (.inl 30)], n, D, s0, p, c) _
        refine tt_k 2 (S' := (100, [some (.inr (.inl 30)), o_1, some (.inl p_), some (.inl k_)], [.inl (s0 3000), .inr (.inl 30)], n, D, s0, p, c)) rfl ?_
        have b32 : 0 ≤ (s0 3000) ∧ (s0 3000) ≤ 2 := hS0 3000
        exact K27 (s0 3000)  (by omega) (Or.inl ⟨h31, rfl⟩)
      · show tt Zi d 143 (92, [some (.inr (.inl 30)), o_1, some (.inl p_), some (.inl k_)], [.inr (.inl 30)], n, D, s0, p, c) _
        refine tt_k 2 (S' := (100, [some (.inr (.inl 30)), o_1, some (.inl p_), some (.inl k_)], [.inl 1, .inr (.inl 30)], n, D, s0, p, c)) rfl ?_
        exact K27 1  (by omega) (Or.inr (⟨h31, rfl⟩))

set_option maxRecDepth 100000 in
set_option maxHeartbeats 4000000 in
theorem x_pack_L27 {Zi : Nat → Option (Nat × (Nat → Int))} {d n : Nat} {D : Nat → Nat × Nat} {s : Nat → Int} {p : Nat → Nat} {c : Nat → Nat → Int} {o_1 : Option mi_V} {Q : mi_Rs → mi_H → Prop} (hd : 7 ≤ d) (hS : bS s) (hC : bC D c) (hq0 : 0 ≤ s 3000 ∧ s 3000 ≤ 1)
  (hK : ∀ (p_ : Int) (o_3 : Option mi_V) (s0 : Nat → Int) (b_p_ : 0 ≤ p_ ∧ p_ ≤ 3) (hS0 : bS s0) (hF0 : fr s s0 [3000]) (i0 : s 3000 ≠ 0 → s0 3000 ≠ 0) (i1 : s0 3000 = 0 → cvp (s0 3001) (s0 3002) (s0 3017) (c 31) p_) (i2 : p_ ≤ s 3003) (i3 : s 3000 = 0 → s0 3000 ≠ 0 → cva (s0 3001) (s0 3002) (s0 3017) (c 31) (s 3003)) (i4 : 0 ≤ s0 3000 ∧ s0 3000 ≤ 1), (s0 3000 ≠ 0 ∨ s 3003 ≤ p_) → tt Zi d 143 (115, [some (.inr (.inl 30)), o_1, some (.inl p_), o_3], [], n, D, s0, p, c) Q) :
  ∀ (m : Nat) (p_ : Int) (o_3 : Option mi_V) (s0 : Nat → Int) (b_p_ : 0 ≤ p_ ∧ p_ ≤ 3) (hS0 : bS s0) (hF0 : fr s s0 [3000]) (i0 : s 3000 ≠ 0 → s0 3000 ≠ 0) (i1 : s0 3000 = 0 → cvp (s0 3001) (s0 3002) (s0 3017) (c 31) p_) (i2 : p_ ≤ s 3003) (i3 : s 3000 = 0 → s0 3000 ≠ 0 → cva (s0 3001) (s0 3002) (s0 3017) (c 31) (s 3003)) (i4 : 0 ≤ s0 3000 ∧ s0 3000 ≤ 1), (s 3003 - p_).toNat < m → tt Zi d 143 (27, [some (.inr (.inl 30)), o_1, some (.inl p_), o_3], [], n, D, s0, p, c) Q := by
  intro m
  induction m with
  | zero => intro p_ o_3 s0 b_p_ hS0 hF0 i0 i1 i2 i3 i4 hm; exact absurd hm (by omega)
  | succ m ih =>
    intro p_ o_3 s0 b_p_ hS0 hF0 i0 i1 i2 i3 i4 hm
    have e1 : s0 3001 = s 3001 := hF0 3001 (by decide)
    have b2 : 1 ≤ (s0 3001) ∧ (s0 3001) ≤ 64 := hS0 3001
    have b3 : 1 ≤ (s 3001) ∧ (s 3001) ≤ 64 := hS 3001
    have e4 : s0 3002 = s 3002 := hF0 3002 (by decide)
    have b5 : 1 ≤ (s0 3002) ∧ (s0 3002) ≤ 64 := hS0 3002
    have b6 : 1 ≤ (s 3002) ∧ (s 3002) ≤ 64 := hS 3002
    have e7 : s0 3017 = s 3017 := hF0 3017 (by decide)
    have b8 : 0 ≤ (s0 3017) ∧ (s0 3017) ≤ 65535 := hS0 3017
    have b9 : 0 ≤ (s 3017) ∧ (s 3017) ≤ 65535 := hS 3017
    have e10 : s0 3003 = s 3003 := hF0 3003 (by decide)
    have b11 : 1 ≤ (s0 3003) ∧ (s0 3003) ≤ 3 := hS0 3003
    have b12 : 1 ≤ (s 3003) ∧ (s 3003) ≤ 3 := hS 3003
    have e13 : s0 3004 = s 3004 := hF0 3004 (by decide)
    have b14 : 2 ≤ (s0 3004) ∧ (s0 3004) ≤ 16 := hS0 3004
    have b15 : 2 ≤ (s 3004) ∧ (s 3004) ≤ 16 := hS 3004
    have e16 : s0 3016 = s 3016 := hF0 3016 (by decide)
    have b17 : 0 ≤ (s0 3016) ∧ (s0 3016) ≤ 65536 := hS0 3016
    have b18 : 0 ≤ (s 3016) ∧ (s 3016) ≤ 65536 := hS 3016
    refine tt_k 3 (S' := (32, [some (.inr (.inl 30)), o_1, some (.inl p_), o_3], [.inl (s0 3003), .inl p_], n, D, s0, p, c)) rfl ?_
    refine tb_ge (x := p_) (y := (s0 3003)) rfl rfl (by omega) (fun h19 => ?_) (fun h19 => ?_)
    · show tt Zi d 143 (115, [some (.inr (.inl 30)), o_1, some (.inl p_), o_3], [], n, D, s0, p, c) _
      exact hK p_ (o_3) s0 (by omega) hS0 hF0 i0 i1 i2 i3 i4 (by omega)
    · show tt Zi d 143 (35, [some (.inr (.inl 30)), o_1, some (.inl p_), o_3], [], n, D, s0, p, c) _
      refine tt_k 2 (S' := (39, [some (.inr (.inl 30)), o_1, some (.inl p_), o_3], [.inl (s0 3000)], n, D, s0, p, c)) rfl ?_
      have b20 : 0 ≤ (s0 3000) ∧ (s0 3000) ≤ 2 := hS0 3000
      refine tz_ne (x := (s0 3000)) rfl rfl (by omega) (fun h21 => ?_) (fun h21 => ?_)
      · show tt Zi d 143 (115, [some (.inr (.inl 30)), o_1, some (.inl p_), o_3], [], n, D, s0, p, c) _
        exact hK p_ (o_3) s0 (by omega) hS0 hF0 i0 i1 i2 i3 i4 (by omega)
      · show tt Zi d 143 (42, [some (.inr (.inl 30)), o_1, some (.inl p_), o_3], [], n, D, s0, p, c) _
        refine tt_k 2 (S' := (44, [some (.inr (.inl 30)), o_1, some (.inl p_), some (.inl 0)], [], n, D, s0, p, c)) rfl ?_
        have hm0 : 0 ≤ s0 3001 * s0 3002 := Int.mul_nonneg (by omega) (by omega)
        refine x_pack_L44 (Zi := Zi) (D := D) (s := s0) (p := p) (c := c) hd hS0 hC  p_ (by omega) (show 0 ≤ (s0 3000) ∧ (s0 3000) ≤ 1 by omega) (show p_ < (s0 3003) by omega) ?_ _ 0 s0 (by omega) hS0 fr_rf (fun h => h) (fun _ => cvk_0) (show 0 ≤ (s0 3001) * (s0 3002) by omega) (fun h0 hz => absurd h0 hz) (show 0 ≤ (s0 3000) ∧ (s0 3000) ≤ 1 by omega) (Nat.lt_succ_self _)
        intro x22 s23 b24 hS23 f25 i26 i27 i28 i29 i30 hx31
        show tt Zi d 143 (109, [some (.inr (.inl 30)), o_1, some (.inl p_), some (.inl x22)], [], n, D, s23, p, c) _
        have e32 : s23 3001 = (s0 3001) := (f25 3001 (by decide))
        have b33 : 1 ≤ (s23 3001) ∧ (s23 3001) ≤ 64 := hS23 3001
        have e34 : s23 3002 = (s0 3002) := (f25 3002 (by decide))
        have b35 : 1 ≤ (s23 3002) ∧ (s23 3002) ≤ 64 := hS23 3002
        have e36 : s23 3017 = (s0 3017) := (f25 3017 (by decide))
        have b37 : 0 ≤ (s23 3017) ∧ (s23 3017) ≤ 65535 := hS23 3017
        have e38 : s23 3003 = (s0 3003) := (f25 3003 (by decide))
        have b39 : 1 ≤ (s23 3003) ∧ (s23 3003) ≤ 3 := hS23 3003
        have e40 : s23 3004 = (s0 3004) := (f25 3004 (by decide))
        have b41 : 2 ≤ (s23 3004) ∧ (s23 3004) ≤ 16 := hS23 3004
        have e42 : s23 3016 = (s0 3016) := (f25 3016 (by decide))
        have b43 : 0 ≤ (s23 3016) ∧ (s23 3016) ≤ 65536 := hS23 3016
        refine tt_k 2 (S' := (27, [some (.inr (.inl 30)), o_1, some (.inl (p_ + 1)), some (.inl x22)], [], n, D, s23, p, c)) rfl ?_
        have aW : s23 3001 = s0 3001 := f25 3001 (by decide)
        have aH : s23 3002 = s0 3002 := f25 3002 (by decide)
        have aM : s23 3017 = s0 3017 := f25 3017 (by decide)
        exact ih (p_ + 1) (some (.inl x22)) s23 (by omega) hS23 (fr_tr hF0 f25 (by decide)) (show s 3000 ≠ 0 → (s23 3000) ≠ 0 by omega) (fun hz => cvp_s (by rw [aW, aH, aM]; exact i1 (by omega)) (i27 hz) (by rw [aW, aH]; exact hx31)) (show (p_ + 1) ≤ s 3003 by omega) (fun h0 hz => if hk : s0 3000 = 0 then (by have h := i29 hk hz; rw [hF0 3003 (by decide)] at h; exact h) else (by exact absurd hk (by omega))) (show 0 ≤ (s23 3000) ∧ (s23 3000) ≤ 1 by omega) (show (s 3003 - (p_ + 1)).toNat < m by omega)

set_option maxRecDepth 100000 in
set_option maxHeartbeats 4000000 in
theorem x_pack_L190 {Zi : Nat → Option (Nat × (Nat → Int))} {d n : Nat} {D : Nat → Nat × Nat} {s : Nat → Int} {p : Nat → Nat} {c : Nat → Nat → Int} {o_1 : Option mi_V} {o_3 : Option mi_V} {Q : mi_Rs → mi_H → Prop} (hd : 7 ≤ d) (hS : bS s) (hC : bC D c) (R : WT) (hq0 : s 3016 ≤ 20)
  (hK : ∀ (q : Int) (s0 : Nat → Int) (c0 : Nat → Nat → Int) (b_q : 0 ≤ q ∧ q ≤ 3) (hS0 : bS s0) (hF0 : fr s s0 [3016]) (hC0 : bC D c0) (hG0 : frc c c0 [35]) (i0 : s0 3016 = s 3016 + 3 * q) (i1 : q ≤ s 3003) (i2 : ∃ W1, wrb W1 (s0 3016) (c0 35) ∧ pFr (s 3003 - q).toNat q W1 = R), (s 3003 ≤ q) → tt Zi d 143 (222, [some (.inr (.inl 30)), o_1, some (.inl q), o_3], [], n, D, s0, p, c0) Q) :
  ∀ (m : Nat) (q : Int) (s0 : Nat → Int) (c0 : Nat → Nat → Int) (b_q : 0 ≤ q ∧ q ≤ 3) (hS0 : bS s0) (hF0 : fr s s0 [3016]) (hC0 : bC D c0) (hG0 : frc c c0 [35]) (i0 : s0 3016 = s 3016 + 3 * q) (i1 : q ≤ s 3003) (i2 : ∃ W1, wrb W1 (s0 3016) (c0 35) ∧ pFr (s 3003 - q).toNat q W1 = R), (s 3003 - q).toNat < m → tt Zi d 143 (190, [some (.inr (.inl 30)), o_1, some (.inl q), o_3], [], n, D, s0, p, c0) Q := by
  intro m
  induction m with
  | zero => intro q s0 c0 b_q hS0 hF0 hC0 hG0 i0 i1 i2 hm; exact absurd hm (by omega)
  | succ m ih =>
    intro q s0 c0 b_q hS0 hF0 hC0 hG0 i0 i1 i2 hm
    have e1 : s0 3000 = s 3000 := hF0 3000 (by decide)
    have b2 : 0 ≤ (s0 3000) ∧ (s0 3000) ≤ 2 := hS0 3000
    have b3 : 0 ≤ (s 3000) ∧ (s 3000) ≤ 2 := hS 3000
    have e4 : s0 3001 = s 3001 := hF0 3001 (by decide)
    have b5 : 1 ≤ (s0 3001) ∧ (s0 3001) ≤ 64 := hS0 3001
    have b6 : 1 ≤ (s 3001) ∧ (s 3001) ≤ 64 := hS 3001
    have e7 : s0 3002 = s 3002 := hF0 3002 (by decide)
    have b8 : 1 ≤ (s0 3002) ∧ (s0 3002) ≤ 64 := hS0 3002
    have b9 : 1 ≤ (s 3002) ∧ (s 3002) ≤ 64 := hS 3002
    have e10 : s0 3017 = s 3017 := hF0 3017 (by decide)
    have b11 : 0 ≤ (s0 3017) ∧ (s0 3017) ≤ 65535 := hS0 3017
    have b12 : 0 ≤ (s 3017) ∧ (s 3017) ≤ 65535 := hS 3017
    have e13 : s0 3003 = s 3003 := hF0 3003 (by decide)
    have b14 : 1 ≤ (s0 3003) ∧ (s0 3003) ≤ 3 := hS0 3003
    have b15 : 1 ≤ (s 3003) ∧ (s 3003) ≤ 3 := hS 3003
    have e16 : s0 3004 = s 3004 := hF0 3004 (by decide)
    have b17 : 2 ≤ (s0 3004) ∧ (s0 3004) ≤ 16 := hS0 3004
    have b18 : 2 ≤ (s 3004) ∧ (s 3004) ≤ 16 := hS 3004
    obtain ⟨W1, hw1, hw2⟩ := i2
    refine tt_k 3 (S' := (195, [some (.inr (.inl 30)), o_1, some (.inl q), o_3], [.inl (s0 3003), .inl q], n, D, s0, p, c0)) rfl ?_
    refine tb_ge (x := q) (y := (s0 3003)) rfl rfl (by omega) (fun h19 => ?_) (fun h19 => ?_)
    · show tt Zi d 143 (222, [some (.inr (.inl 30)), o_1, some (.inl q), o_3], [], n, D, s0, p, c0) _
      exact hK q s0 c0 (by omega) hS0 hF0 hC0 hG0 (show (s0 3016) = s 3016 + 3 * q by omega) (show q ≤ s 3003 by omega) ⟨W1, hw1, hw2⟩ (by omega)
    · show tt Zi d 143 (198, [some (.inr (.inl 30)), o_1, some (.inl q), o_3], [], n, D, s0, p, c0) _
      refine tt_k 4 (S' := (202, [some (.inr (.inl 30)), o_1, some (.inl q), o_3], [.inl (q + 1), .inr (.inl 30)], n, D, s0, p, c0)) rfl ?_
      have b20 : 0 ≤ (s0 3016) ∧ (s0 3016) ≤ 65536 := hS0 3016
      refine tt_cl (by omega) rfl (y_add (Zi := Zi) (D := D) (s := s0) (p := p) (c := c0) (by omega) hS0 hC0 W1 (q + 1) (by omega) (show (s0 3016) ≤ 65535 by omega) hw1) ?_
      rintro _ _ ⟨s21, c22, rfl, rfl, hS21, hC22, f23, g24, k25, k26⟩
      show tt Zi d 143 (205, [some (.inr (.inl 30)), o_1, some (.inl q), o_3], [], n, D, s21, p, c22) _
      replace k25 : (s21 3016) = (s0 3016) + 1 := k25
      replace k26 : wrb (wAdd W1 (q + 1)) ((s21 3016)) ((c22 35)) := k26
      have b27 : 0 ≤ (s21 3016) ∧ (s21 3016) ≤ 65536 := hS21 3016
      have e28 : s21 3000 = (s0 3000) := (f23 3000 (by decide))
      have b29 : 0 ≤ (s21 3000) ∧ (s21 3000) ≤ 2 := hS21 3000
      have e30 : s21 3001 = (s0 3001) := (f23 3001 (by decide))
      have b31 : 1 ≤ (s21 3001) ∧ (s21 3001) ≤ 64 := hS21 3001
      have e32 : s21 3002 = (s0 3002) := (f23 3002 (by decide))
      have b33 : 1 ≤ (s21 3002) ∧ (s21 3002) ≤ 64 := hS21 3002
      have e34 : s21 3017 = (s0 3017) := (f23 3017 (by decide))
      have b35 : 0 ≤ (s21 3017) ∧ (s21 3017) ≤ 65535 := hS21 3017
      have e36 : s21 3003 = (s0 3003) := (f23 3003 (by decide))
      have b37 : 1 ≤ (s21 3003) ∧ (s21 3003) ≤ 3 := hS21 3003
      have e38 : s21 3004 = (s0 3004) := (f23 3004 (by decide))
      have b39 : 2 ≤ (s21 3004) ∧ (s21 3004) ≤ 16 := hS21 3004
      refine tt_k 2 (S' := (208, [some (.inr (.inl 30)), o_1, some (.inl q), o_3], [.inl 17, .inr (.inl 30)], n, D, s21, p, c22)) rfl ?_
      refine tt_cl (by omega) rfl (y_add (Zi := Zi) (D := D) (s := s21) (p := p) (c := c22) (by omega) hS21 hC22 (wAdd W1 (q + 1)) 17 (by omega) (show (s21 3016) ≤ 65535 by omega) k26) ?_
      rintro _ _ ⟨s40, c41, rfl, rfl, hS40, hC41, f42, g43, k44, k45⟩
      show tt Zi d 143 (211, [some (.inr (.inl 30)), o_1, some (.inl q), o_3], [], n, D, s40, p, c41) _
      replace k44 : (s40 3016) = (s21 3016) + 1 := k44
      replace k45 : wrb (wAdd (wAdd W1 (q + 1)) 17) ((s40 3016)) ((c41 35)) := k45
      have b46 : 0 ≤ (s40 3016) ∧ (s40 3016) ≤ 65536 := hS40 3016
      have e47 : s40 3000 = (s21 3000) := (f42 3000 (by decide))
      have b48 : 0 ≤ (s40 3000) ∧ (s40 3000) ≤ 2 := hS40 3000
      have e49 : s40 3001 = (s21 3001) := (f42 3001 (by decide))
      have b50 : 1 ≤ (s40 3001) ∧ (s40 3001) ≤ 64 := hS40 3001
      have e51 : s40 3002 = (s21 3002) := (f42 3002 (by decide))
      have b52 : 1 ≤ (s40 3002) ∧ (s40 3002) ≤ 64 := hS40 3002
      have e53 : s40 3017 = (s21 3017) := (f42 3017 (by decide))
      have b54 : 0 ≤ (s40 3017) ∧ (s40 3017) ≤ 65535 := hS40 3017
      have e55 : s40 3003 = (s21 3003) := (f42 3003 (by decide))
      have b56 : 1 ≤ (s40 3003) ∧ (s40 3003) ≤ 3 := hS40 3003
      have e57 : s40 3004 = (s21 3004) := (f42 3004 (by decide))
      have b58 : 2 ≤ (s40 3004) ∧ (s40 3004) ≤ 16 := hS40 3004
      refine tt_k 2 (S' := (213, [some (.inr (.inl 30)), o_1, some (.inl q), o_3], [.inl 0, .inr (.inl 30)], n, D, s40, p, c41)) rfl ?_
      refine tt_cl (by omega) rfl (y_add (Zi := Zi) (D := D) (s := s40) (p := p) (c := c41) (by omega) hS40 hC41 (wAdd (wAdd W1 (q + 1)) 17) 0 (by omega) (show (s40 3016) ≤ 65535 by omega) k45) ?_
      rintro _ _ ⟨s59, c60, rfl, rfl, hS59, hC60, f61, g62, k63, k64⟩
      show tt Zi d 143 (216, [some (.inr (.inl 30)), o_1, some (.inl q), o_3], [], n, D, s59, p, c60) _
      replace k63 : (s59 3016) = (s40 3016) + 1 := k63
      replace k64 : wrb (wAdd (wAdd (wAdd W1 (q + 1)) 17) 0) ((s59 3016)) ((c60 35)) := k64
      have b65 : 0 ≤ (s59 3016) ∧ (s59 3016) ≤ 65536 := hS59 3016
      have e66 : s59 3000 = (s40 3000) := (f61 3000 (by decide))
      have b67 : 0 ≤ (s59 3000) ∧ (s59 3000) ≤ 2 := hS59 3000
      have e68 : s59 3001 = (s40 3001) := (f61 3001 (by decide))
      have b69 : 1 ≤ (s59 3001) ∧ (s59 3001) ≤ 64 := hS59 3001
      have e70 : s59 3002 = (s40 3002) := (f61 3002 (by decide))
      have b71 : 1 ≤ (s59 3002) ∧ (s59 3002) ≤ 64 := hS59 3002
      have e72 : s59 3017 = (s40 3017) := (f61 3017 (by decide))
      have b73 : 0 ≤ (s59 3017) ∧ (s59 3017) ≤ 65535 := hS59 3017
      have e74 : s59 3003 = (s40 3003) := (f61 3003 (by decide))
      have b75 : 1 ≤ (s59 3003) ∧ (s59 3003) ≤ 3 := hS59 3003
      have e76 : s59 3004 = (s40 3004) := (f61 3004 (by decide))
      have b77 : 2 ≤ (s59 3004) ∧ (s59 3004) ≤ 16 := hS59 3004
      refine tt_k 2 (S' := (190, [some (.inr (.inl 30)), o_1, some (.inl (q + 1)), o_3], [], n, D, s59, p, c60)) rfl ?_
      rw [show (s 3003 - q).toNat = (s 3003 - (q + 1)).toNat + 1 by omega, pFr] at hw2
      exact ih (q + 1) s59 c60 (by omega) hS59 (fr_tr (fr_tr (fr_tr hF0 f23 (by decide)) f42 (by decide)) f61 (by decide)) hC60 (frc_tr (frc_tr (frc_tr hG0 g24 (by decide)) g43 (by decide)) g62 (by decide)) (show (s59 3016) = s 3016 + 3 * (q + 1) by omega) (show (q + 1) ≤ s 3003 by omega) ⟨_, k64, hw2⟩ (show (s 3003 - (q + 1)).toNat < m by omega)

set_option maxRecDepth 100000 in
set_option maxHeartbeats 4000000 in
theorem x_pack_L226 {Zi : Nat → Option (Nat × (Nat → Int))} {d n : Nat} {D : Nat → Nat × Nat} {s : Nat → Int} {p : Nat → Nat} {c : Nat → Nat → Int} {o_1 : Option mi_V} {Q : mi_Rs → mi_H → Prop} (hd : 7 ≤ d) (hS : bS s) (hC : bC D c) 
  (hK : ∀ (so : Int) (k_ : Int) (b_so : 0 ≤ so ∧ so ≤ 1) (b_k_ : 0 ≤ k_ ∧ k_ ≤ 5) (i0 : so = 0 → ∀ j : Int, 0 ≤ j → j < k_ → c 32 j.toNat = 0) (i1 : so ≠ 0 → ¬ (c 32 0 = 0 ∧ c 32 1 = 0 ∧ c 32 2 = 0 ∧ c 32 3 = 0 ∧ c 32 4 = 0)), (5 ≤ k_) → tt Zi d 143 (256, [some (.inr (.inl 30)), o_1, some (.inl so), some (.inl k_)], [], n, D, s, p, c) Q) :
  ∀ (m : Nat) (so : Int) (k_ : Int) (b_so : 0 ≤ so ∧ so ≤ 1) (b_k_ : 0 ≤ k_ ∧ k_ ≤ 5) (i0 : so = 0 → ∀ j : Int, 0 ≤ j → j < k_ → c 32 j.toNat = 0) (i1 : so ≠ 0 → ¬ (c 32 0 = 0 ∧ c 32 1 = 0 ∧ c 32 2 = 0 ∧ c 32 3 = 0 ∧ c 32 4 = 0)), (5 - k_).toNat < m → tt Zi d 143 (226, [some (.inr (.inl 30)), o_1, some (.inl so), some (.inl k_)], [], n, D, s, p, c) Q := by
  intro m
  induction m with
  | zero => intro so k_ b_so b_k_ i0 i1 hm; exact absurd hm (by omega)
  | succ m ih =>
    intro so k_ b_so b_k_ i0 i1 hm
    refine tt_k 2 (S' := (228, [some (.inr (.inl 30)), o_1, some (.inl so), some (.inl k_)], [.inl 5, .inl k_], n, D, s, p, c)) rfl ?_
    refine tb_ge (x := k_) (y := 5) rfl rfl (by omega) (fun h1 => ?_) (fun h1 => ?_)
    · show tt Zi d 143 (256, [some (.inr (.inl 30)), o_1, some (.inl so), some (.inl k_)], [], n, D, s, p, c) _
      exact hK so k_ (by omega) (by omega) i0 i1 (by omega)
    · show tt Zi d 143 (231, [some (.inr (.inl 30)), o_1, some (.inl so), some (.inl k_)], [], n, D, s, p, c) _
      refine tt_k 1 (S' := (232, [some (.inr (.inl 30)), o_1, some (.inl so), some (.inl k_)], [.inl so], n, D, s, p, c)) rfl ?_
      refine tz_ne (x := so) rfl rfl (by omega) (fun h2 => ?_) (fun h2 => ?_)
      · show tt Zi d 143 (244, [some (.inr (.inl 30)), o_1, some (.inl so), some (.inl k_)], [], n, D, s, p, c) _
        refine tt_k 5 (S' := (226, [some (.inr (.inl 30)), o_1, some (.inl 1), some (.inl (k_ + 1))], [], n, D, s, p, c)) rfl ?_
        exact ih 1 (k_ + 1)  (by omega) (by omega) (fun h => absurd h (by decide)) (fun _ => if e : so = 0 then (by exact fun hz => z5_no hz (i := k_) (by omega) (by omega)) else (by exact i1 e)) (show (5 - (k_ + 1)).toNat < m by omega)
      · show tt Zi d 143 (235, [some (.inr (.inl 30)), o_1, some (.inl so), some (.inl k_)], [], n, D, s, p, c) _
        refine tt_k 3 (S' := (240, [some (.inr (.inl 30)), o_1, some (.inl so), some (.inl k_)], [.inl k_, .inr (.inl 32)], n, D, s, p, c)) rfl ?_
        refine tt_ildv (i := k_) (v := (c 32 (k_).toNat)) rfl rfl (by omega) rfl ?_
        show tt Zi d 143 (241, [some (.inr (.inl 30)), o_1, some (.inl so), some (.inl k_)], [.inl (c 32 (k_).toNat)], n, D, s, p, c) _
        have b3 : 0 ≤ (c 32 (k_).toNat) ∧ (c 32 (k_).toNat) ≤ 65535 := hC 32 _
        refine tz_eq (x := (c 32 (k_).toNat)) rfl rfl (by omega) (fun h4 => ?_) (fun h4 => ?_)
        · show tt Zi d 143 (248, [some (.inr (.inl 30)), o_1, some (.inl so), some (.inl k_)], [], n, D, s, p, c) _
          refine tt_k 4 (S' := (226, [some (.inr (.inl 30)), o_1, some (.inl 0), some (.inl (k_ + 1))], [], n, D, s, p, c)) rfl ?_
          exact ih 0 (k_ + 1)  (by omega) (by omega) (fun _ j h1 h2 => if e : j = k_ then (by rw [e]; omega) else (by exact i0 (by omega) j h1 (by omega))) (fun h => absurd rfl h) (show (5 - (k_ + 1)).toNat < m by omega)
        · show tt Zi d 143 (244, [some (.inr (.inl 30)), o_1, some (.inl so), some (.inl k_)], [], n, D, s, p, c) _
          refine tt_k 5 (S' := (226, [some (.inr (.inl 30)), o_1, some (.inl 1), some (.inl (k_ + 1))], [], n, D, s, p, c)) rfl ?_
          exact ih 1 (k_ + 1)  (by omega) (by omega) (fun h => absurd h (by decide)) (fun _ => if e : so = 0 then (by exact fun hz => z5_no hz (i := k_) (by omega) (by omega)) else (by exact i1 e)) (show (5 - (k_ + 1)).toNat < m by omega)

set_option maxRecDepth 100000 in
set_option maxHeartbeats 4000000 in
theorem x_pack_L280 {Zi : Nat → Option (Nat × (Nat → Int))} {d n : Nat} {D : Nat → Nat × Nat} {s : Nat → Int} {p : Nat → Nat} {c : Nat → Nat → Int} {o_1 : Option mi_V} {o_2 : Option mi_V} {Q : mi_Rs → mi_H → Prop} (hd : 7 ≤ d) (hS : bS s) (hC : bC D c) (R : WT) (hq0 : s 3016 ≤ 40)
  (hK : ∀ (k_ : Int) (s0 : Nat → Int) (c0 : Nat → Nat → Int) (b_k_ : 0 ≤ k_ ∧ k_ ≤ 5) (hS0 : bS s0) (hF0 : fr s s0 [3016]) (hC0 : bC D c0) (hG0 : frc c c0 [35]) (i0 : s0 3016 = s 3016 + 2 * k_) (i1 : ∃ W1, wrb W1 (s0 3016) (c0 35) ∧ pMl (f5 (c 32 0) (c 32 1) (c 32 2) (c 32 3) (c 32 4)) (5 - k_).toNat k_ W1 = R), (5 ≤ k_) → tt Zi d 143 (301, [some (.inr (.inl 30)), o_1, o_2, some (.inl k_)], [], n, D, s0, p, c0) Q) :
  ∀ (m : Nat) (k_ : Int) (s0 : Nat → Int) (c0 : Nat → Nat → Int) (b_k_ : 0 ≤ k_ ∧ k_ ≤ 5) (hS0 : bS s0) (hF0 : fr s s0 [3016]) (hC0 : bC D c0) (hG0 : frc c c0 [35]) (i0 : s0 3016 = s 3016 + 2 * k_) (i1 : ∃ W1, wrb W1 (s0 3016) (c0 35) ∧ pMl (f5 (c 32 0) (c 32 1) (c 32 2) (c 32 3) (c 32 4)) (5 - k_).toNat k_ W1 = R), (5 - k_).toNat < m → tt Zi d 143 (280, [some (.inr (.inl 30)), o_1, o_2, some (.inl k_)], [], n, D, s0, p, c0) Q := by
  intro m
  induction m with
  | zero => intro k_ s0 c0 b_k_ hS0 hF0 hC0 hG0 i0 i1 hm; exact absurd hm (by omega)
  | succ m ih =>
    intro k_ s0 c0 b_k_ hS0 hF0 hC0 hG0 i0 i1 hm
    have e1 : s0 3000 = s 3000 := hF0 3000 (by decide)
    have b2 : 0 ≤ (s0 3000) ∧ (s0 3000) ≤ 2 := hS0 3000
    have b3 : 0 ≤ (s 3000) ∧ (s 3000) ≤ 2 := hS 3000
    have e4 : s0 3001 = s 3001 := hF0 3001 (by decide)
    have b5 : 1 ≤ (s0 3001) ∧ (s0 3001) ≤ 64 := hS0 3001
    have b6 : 1 ≤ (s 3001) ∧ (s 3001) ≤ 64 := hS 3001
    have e7 : s0 3002 = s 3002 := hF0 3002 (by decide)
    have b8 : 1 ≤ (s0 3002) ∧ (s0 3002) ≤ 64 := hS0 3002
    have b9 : 1 ≤ (s 3002) ∧ (s 3002) ≤ 64 := hS 3002
    have e10 : s0 3017 = s 3017 := hF0 3017 (by decide)
    have b11 : 0 ≤ (s0 3017) ∧ (s0 3017) ≤ 65535 := hS0 3017
    have b12 : 0 ≤ (s 3017) ∧ (s 3017) ≤ 65535 := hS 3017
    have e13 : s0 3003 = s 3003 := hF0 3003 (by decide)
    have b14 : 1 ≤ (s0 3003) ∧ (s0 3003) ≤ 3 := hS0 3003
    have b15 : 1 ≤ (s 3003) ∧ (s 3003) ≤ 3 := hS 3003
    have e16 : s0 3004 = s 3004 := hF0 3004 (by decide)
    have b17 : 2 ≤ (s0 3004) ∧ (s0 3004) ≤ 16 := hS0 3004
    have b18 : 2 ≤ (s 3004) ∧ (s 3004) ≤ 16 := hS 3004
    obtain ⟨W1, hw1, hw2⟩ := i1
    refine tt_k 2 (S' := (282, [some (.inr (.inl 30)), o_1, o_2, some (.inl k_)], [.inl 5, .inl k_], n, D, s0, p, c0)) rfl ?_
    refine tb_ge (x := k_) (y := 5) rfl rfl (by omega) (fun h19 => ?_) (fun h19 => ?_)
    · show tt Zi d 143 (301, [some (.inr (.inl 30)), o_1, o_2, some (.inl k_)], [], n, D, s0, p, c0) _
      exact hK k_ s0 c0 (by omega) hS0 hF0 hC0 hG0 (show (s0 3016) = s 3016 + 2 * k_ by omega) ⟨W1, hw1, hw2⟩ (by omega)
    · show tt Zi d 143 (285, [some (.inr (.inl 30)), o_1, o_2, some (.inl k_)], [], n, D, s0, p, c0) _
      refine tt_k 4 (S' := (291, [some (.inr (.inl 30)), o_1, o_2, some (.inl k_)], [.inl k_, .inr (.inl 32), .inr (.inl 30)], n, D, s0, p, c0)) rfl ?_
      refine tt_ildv (i := k_) (v := (c0 32 (k_).toNat)) rfl rfl (by omega) rfl ?_
      show tt Zi d 143 (292, [some (.inr (.inl 30)), o_1, o_2, some (.inl k_)], [.inl (c0 32 (k_).toNat), .inr (.inl 30)], n, D, s0, p, c0) _
      have b20 : 0 ≤ (c0 32 (k_).toNat) ∧ (c0 32 (k_).toNat) ≤ 65535 := hC0 32 _
      have b21 : 0 ≤ (s0 3016) ∧ (s0 3016) ≤ 65536 := hS0 3016
      refine tt_cl (by omega) rfl (y_two (Zi := Zi) (D := D) (s := s0) (p := p) (c := c0) (by omega) hS0 hC0 W1 (c0 32 (k_).toNat) (by omega) (show (s0 3016) ≤ 65534 by omega) hw1) ?_
      rintro _ _ ⟨s22, c23, rfl, rfl, hS22, hC23, f24, g25, k26, k27⟩
      show tt Zi d 143 (295, [some (.inr (.inl 30)), o_1, o_2, some (.inl k_)], [], n, D, s22, p, c23) _
      replace k26 : (s22 3016) = (s0 3016) + 2 := k26
      replace k27 : wrb (wAdd (wAdd W1 (mi_shr (c0 32 (k_).toNat) 8)) (c0 32 (k_).toNat)) ((s22 3016)) ((c23 35)) := k27
      have b28 : 0 ≤ (s22 3016) ∧ (s22 3016) ≤ 65536 := hS22 3016
      have e29 : s22 3000 = (s0 3000) := (f24 3000 (by decide))
      have b30 : 0 ≤ (s22 3000) ∧ (s22 3000) ≤ 2 := hS22 3000
      have e31 : s22 3001 = (s0 3001) := (f24 3001 (by decide))
      have b32 : 1 ≤ (s22 3001) ∧ (s22 3001) ≤ 64 := hS22 3001
      have e33 : s22 3002 = (s0 3002) := (f24 3002 (by decide))
      have b34 : 1 ≤ (s22 3002) ∧ (s22 3002) ≤ 64 := hS22 3002
      have e35 : s22 3017 = (s0 3017) := (f24 3017 (by decide))
      have b36 : 0 ≤ (s22 3017) ∧ (s22 3017) ≤ 65535 := hS22 3017
      have e37 : s22 3003 = (s0 3003) := (f24 3003 (by decide))
      have b38 : 1 ≤ (s22 3003) ∧ (s22 3003) ≤ 3 := hS22 3003
      have e39 : s22 3004 = (s0 3004) := (f24 3004 (by decide))
      have b40 : 2 ≤ (s22 3004) ∧ (s22 3004) ≤ 16 := hS22 3004
      refine tt_k 2 (S' := (280, [some (.inr (.inl 30)), o_1, o_2, some (.inl (k_ + 1))], [], n, D, s22, p, c23)) rfl ?_
      rw [show (5 - k_).toNat = (5 - (k_ + 1)).toNat + 1 by omega, pMl] at hw2
      have hf5 : c0 32 k_.toNat = f5 (c 32 0) (c 32 1) (c 32 2) (c 32 3) (c 32 4) k_ := by rw [hG0 32 (by decide)]; exact f5_of (by omega)
      rw [← hf5] at hw2
      exact ih (k_ + 1) s22 c23 (by omega) hS22 (fr_tr hF0 f24 (by decide)) hC23 (frc_tr hG0 g25 (by decide)) (show (s22 3016) = s 3016 + 2 * (k_ + 1) by omega) ⟨_, k27, hw2⟩ (show (5 - (k_ + 1)).toNat < m by omega)
set_option maxRecDepth 100000 in
set_option maxHeartbeats 4000000 in
theorem x_pack {Zi : Nat → Option (Nat × (Nat → Int))} {d n : Nat} {D : Nat → Nat × Nat} {s : Nat → Int} {p : Nat → Nat} {c : Nat → Nat → Int} (hd : 7 ≤ d) (hS : bS s) (hC : bC D c) (E : Int → Int → Int → Int) (nn : Int) (b_nn : -2147483648 ≤ nn ∧ nn ≤ 2147483647) (hp0 : cr E (s 3001) (s 3002) (s 3003) (c 31)) : tt Zi d 143 (0, [some (.inr (.inl 30)), some (.inl nn), none, none], [], n, D, s, p, c) (fun R H => ∃ (s' : Nat → Int) (c' : Nat → Nat → Int) (r : Int), R = .inl (some (.inl r)) ∧ H = (n, D, s', p, c') ∧ bS s' ∧ bC D c' ∧ fr s s' [3000, 3016, 3017, 3018, 3019, 3020, 3021, 3022, 3023, 3024, 3025, 3026, 3035, 3036, 3037, 3038, 3039, 3041, 3042, 3043, 3044, 3045, 3046, 3047, 3048, 3050, 3062] ∧ frc c c' [35, 36, 37, 38, 39, 40, 41, 42, 43, 44] ∧ (0 ≤ r ∧ r ≤ 65536) ∧ ((s' 3000 = 0 ∧ ((VM (c 32 0) (c 32 1) (c 32 2) (c 32 3) (c 32 4) (s 3004) nn) ∧ AB E (s 3001) (s 3002) (s 3003) (zMo (c 32 0) (s 3004))) ∧ wrb (PK (c 32 0) (c 32 1) (c 32 2) (c 32 3) (c 32 4) (s 3001) (s 3002) (s 3003) (s 3004) nn E) (s' 3016) (c' 35) ∧ r = s' 3016 ∧ mrl (pKp (ZM (c 32 0) (c 32 1) (c 32 2) (c 32 3) (c 32 4) (s 3004) nn) (s 3001) (s 3002) E nn (s 3003).toNat 0 (pMs (c 32 0) (c 32 1) (c 32 2) (c 32 3) (c 32 4) (pFm (s 3001) (s 3002) (s 3003) (s 3004) (pMk W00 216))) (kOr (c 40) (c 41) (c 42) (c 43))) (c' 40) (c' 41) (c' 42) (c' 43)) ∨ (s' 3000 = 1 ∧ ¬ ((VM (c 32 0) (c 32 1) (c 32 2) (c 32 3) (c 32 4) (s 3004) nn) ∧ AB E (s 3001) (s 3002) (s 3003) (zMo (c 32 0) (s 3004))) ∧ s' 3016 = s 3016 ∧ c' 35 = c 35 ∧ (c' 40 = c 40 ∧ c' 41 = c 41 ∧ c' 42 = c 42 ∧ c' 43 = c 43)))) := by
  refine tt_k 7 (S' := (11, [some (.inr (.inl 30)), some (.inl nn), none, none], [.inl nn, .inl (s 3004), .inr (.inl 32), .inr (.inl 30), .inr (.inl 30)], n, D, s, p, c)) rfl ?_
  have b1 : 2 ≤ (s 3004) ∧ (s 3004) ≤ 16 := hS 3004
  refine tt_cl (by omega) rfl (x_measP (Zi := Zi) (D := D) (s := s) (p := p) (c := c) (by omega) hS hC (s 3004) nn (by omega) (by omega)) ?_
  rintro _ _ ⟨s2, r3, rfl, rfl, hS2, f4, b5, k6⟩
  show tt Zi d 143 (14, [some (.inr (.inl 30)), some (.inl nn), none, none], [.inl r3, .inr (.inl 30)], n, D, s2, p, c) _
  replace k6 : (r3 = 1 ∧ VM ((c 32) 0) ((c 32) 1) ((c 32) 2) ((c 32) 3) ((c 32) 4) (s 3004) nn ∧ zq (ZM ((c 32) 0) ((c 32) 1) ((c 32) 2) ((c 32) 3) ((c 32) 4) (s 3004) nn) ((s2 3017)) ((s2 3018)) ((s2 3019)) ((s2 3020)) ((s2 3021)) ((s2 3022)) ((s2 3023)) ((s2 3024)) ((s2 3025)) ((s2 3026))) ∨ (r3 = 0 ∧ ¬ VM ((c 32) 0) ((c 32) 1) ((c 32) 2) ((c 32) 3) ((c 32) 4) (s 3004) nn) := k6
  have b7 : 0 ≤ (s2 3017) ∧ (s2 3017) ≤ 65535 := hS2 3017
  have b8 : -2147483648 ≤ (s2 3018) ∧ (s2 3018) ≤ 2147483647 := hS2 3018
  have b9 : -2147483648 ≤ (s2 3019) ∧ (s2 3019) ≤ 2147483647 := hS2 3019
  have b10 : -2147483648 ≤ (s2 3020) ∧ (s2 3020) ≤ 2147483647 := hS2 3020
  have b11 : -2147483648 ≤ (s2 3021) ∧ (s2 3021) ≤ 2147483647 := hS2 3021
  have b12 : 0 ≤ (s2 3022) ∧ (s2 3022) ≤ 65535 := hS2 3022
  have b13 : -2147483648 ≤ (s2 3023) ∧ (s2 3023) ≤ 2147483647 := hS2 3023
  have b14 : -2147483648 ≤ (s2 3024) ∧ (s2 3024) ≤ 2147483647 := hS2 3024
  have b15 : 0 ≤ (s2 3025) ∧ (s2 3025) ≤ 31 := hS2 3025
  have b16 : 0 ≤ (s2 3026) ∧ (s2 3026) ≤ 96 := hS2 3026
  have e17 : s2 3000 = (s 3000) := (f4 3000 (by decide))
  have b18 : 0 ≤ (s2 3000) ∧ (s2 3000) ≤ 2 := hS2 3000
  have b19 : 0 ≤ (s 3000) ∧ (s 3000) ≤ 2 := hS 3000
  have e20 : s2 3001 = (s 3001) := (f4 3001 (by decide))
  have b21 : 1 ≤ (s2 3001) ∧ (s2 3001) ≤ 64 := hS2 3001
  have b22 : 1 ≤ (s 3001) ∧ (s 3001) ≤ 64 := hS 3001
  have e23 : s2 3002 = (s 3002) := (f4 3002 (by decide))
  have b24 : 1 ≤ (s2 3002) ∧ (s2 3002) ≤ 64 := hS2 3002
  have b25 : 1 ≤ (s 3002) ∧ (s 3002) ≤ 64 := hS 3002
  have e26 : s2 3003 = (s 3003) := (f4 3003 (by decide))
  have b27 : 1 ≤ (s2 3003) ∧ (s2 3003) ≤ 3 := hS2 3003
  have b28 : 1 ≤ (s 3003) ∧ (s 3003) ≤ 3 := hS 3003
  have e29 : s2 3004 = (s 3004) := (f4 3004 (by decide))
  have b30 : 2 ≤ (s2 3004) ∧ (s2 3004) ≤ 16 := hS2 3004
  have e31 : s2 3016 = (s 3016) := (f4 3016 (by decide))
  have b32 : 0 ≤ (s2 3016) ∧ (s2 3016) ≤ 65536 := hS2 3016
  have b33 : 0 ≤ (s 3016) ∧ (s 3016) ≤ 65536 := hS 3016
  have hset0 : r3 = 0 → ¬ (VM (c 32 0) (c 32 1) (c 32 2) (c 32 3) (c 32 4) (s 3004) nn) := fun h => (k6).elim (fun ⟨h1, _⟩ => by omega) (fun ⟨_, h2⟩ => by exact h2)
  have hset1 : r3 ≠ 0 → (VM (c 32 0) (c 32 1) (c 32 2) (c 32 3) (c 32 4) (s 3004) nn) ∧ zq (ZM (c 32 0) (c 32 1) (c 32 2) (c 32 3) (c 32 4) (s 3004) nn) (s2 3017) (s2 3018) (s2 3019) (s2 3020) (s2 3021) (s2 3022) (s2 3023) (s2 3024) (s2 3025) (s2 3026) := fun h => (k6).elim (fun ⟨_, h2⟩ => by exact h2) (fun ⟨h1, _⟩ => by exact absurd h1 h)
  clear k6
  have K35 : ∀ (j34 : Int) , (0 ≤ j34 ∧ j34 ≤ 1) → ((r3 = 0 ∧ j34 = 1) ∨ (r3 ≠ 0 ∧ j34 = 0)) → tt Zi d 143 (22, [some (.inr (.inl 30)), some (.inl nn), none, none], [.inl j34, .inr (.inl 30)], n, D, s2, p, c) (fun R H => ∃ (s' : Nat → Int) (c' : Nat → Nat → Int) (r : Int), R = .inl (some (.inl r)) ∧ H = (n, D, s', p, c') ∧ bS s' ∧ bC D c' ∧ fr s s' [3000, 3016, 3017, 3018, 3019, 3020, 3021, 3022, 3023, 3024, 3025, 3026, 3035, 3036, 3037, 3038, 3039, 3041, 3042, 3043, 3044, 3045, 3046, 3047, 3048, 3050, 3062] ∧ frc c c' [35, 36, 37, 38, 39, 40, 41, 42, 43, 44] ∧ (0 ≤ r ∧ r ≤ 65536) ∧ ((s' 3000 = 0 ∧ ((VM (c 32 0) (c 32 1) (c 32 2) (c 32 3) (c 32 4) (s 3004) nn) ∧ AB E (s 3001) (s 3002) (s 3003) (zMo (c 32 0) (s 3004))) ∧ wrb (PK (c 32 0) (c 32 1) (c 32 2) (c 32 3) (c 32 4) (s 3001) (s 3002) (s 3003) (s 3004) nn E) (s' 3016) (c' 35) ∧ r = s' 3016 ∧ mrl (pKp (ZM (c 32 0) (c 32 1) (c 32 2) (c 32 3) (c 32 4) (s 3004) nn) (s 3001) (s 3002) E nn (s 3003).toNat 0 (pMs (c 32 0) (c 32 1) (c 32 2) (c 32 3) (c 32 4) (pFm (s 3001) (s 3002) (s 3003) (s 3004) (pMk W00 216))) (kOr (c 40) (c 41) (c 42) (c 43))) (c' 40) (c' 41) (c' 42) (c' 43)) ∨ (s' 3000 = 1 ∧ ¬ ((VM (c 32 0) (c 32 1) (c 32 2) (c 32 3) (c 32 4) (s 3004) nn) ∧ AB E (s 3001) (s 3002) (s 3003) (zMo (c 32 0) (s 3004))) ∧ s' 3016 = s 3016 ∧ c' 35 = c 35 ∧ (c' 40 = c 40 ∧ c' 41 = c 41 ∧ c' 42 = c 42 ∧ c' 43 = c 43)))) := by
    intro j34 b37 hj36
    refine tt_k 3 (S' := (27, [some (.inr (.inl 30)), some (.inl nn), some (.inl 0), none], [], n, D, (us s2 3000 j34), p, c)) rfl ?_
    refine x_pack_L27 (Zi := Zi) (D := D) (s := (us s2 3000 j34)) (p := p) (c := c) hd (bS_us hS2 (show 0 ≤ j34 ∧ j34 ≤ 2 by omega)) hC   (show 0 ≤ j34 ∧ j34 ≤ 1 by omega) ?_ _ 0 (none) (us s2 3000 j34) (by omega) (bS_us hS2 (show 0 ≤ j34 ∧ j34 ≤ 2 by omega)) fr_rf (fun h => h) (fun _ => cvp_0) (show 0 ≤ (s2 3003) by omega) (fun h0 hz => absurd h0 hz) (show 0 ≤ j34 ∧ j34 ≤ 1 by omega) (Nat.lt_succ_self _)
    intro x38 x39 s40 b41 hS40 f42 i43 i44 i45 i46 i47 hx48
    show tt Zi d 143 (115, [some (.inr (.inl 30)), some (.inl nn), some (.inl x38), x39], [], n, D, s40, p, c) _
    have e49 : s40 3001 = (s2 3001) := (f42 3001 (by decide))
    have b50 : 1 ≤ (s40 3001) ∧ (s40 3001) ≤ 64 := hS40 3001
    have e51 : s40 3002 = (s2 3002) := (f42 3002 (by decide))
    have b52 : 1 ≤ (s40 3002) ∧ (s40 3002) ≤ 64 := hS40 3002
    have e53 : s40 3017 = (s2 3017) := (f42 3017 (by decide))
    have b54 : 0 ≤ (s40 3017) ∧ (s40 3017) ≤ 65535 := hS40 3017
    have e55 : s40 3003 = (s2 3003) := (f42 3003 (by decide))
    have b56 : 1 ≤ (s40 3003) ∧ (s40 3003) ≤ 3 := hS40 3003
    have e57 : s40 3004 = (s2 3004) := (f42 3004 (by decide))
    have b58 : 2 ≤ (s40 3004) ∧ (s40 3004) ≤ 16 := hS40 3004
    have e59 : s40 3016 = (s2 3016) := (f42 3016 (by decide))
    have b60 : 0 ≤ (s40 3016) ∧ (s40 3016) ≤ 65536 := hS40 3016
    have pW : s40 3001 = s 3001 := (f42 3001 (by decide)).trans (f4 3001 (by decide))
    have pH : s40 3002 = s 3002 := (f42 3002 (by decide)).trans (f4 3002 (by decide))
    have pP : s40 3003 = s 3003 := (f42 3003 (by decide)).trans (f4 3003 (by decide))
    have hcj : j34 ≠ 0 → s40 3000 ≠ 0 := i43
    have hcb : 0 ≤ s40 3000 ∧ s40 3000 ≤ 1 := i47
    have hxx : s40 3000 ≠ 0 ∨ (s2 3003) ≤ x38 := hx48
    have pM : s40 3017 = s2 3017 := f42 3017 (by decide)
    have pS : s40 3016 = s 3016 := (f42 3016 (by decide)).trans (f4 3016 (by decide))
    refine tt_k 2 (S' := (119, [some (.inr (.inl 30)), some (.inl nn), some (.inl x38), x39], [.inl (s40 3000)], n, D, s40, p, c)) rfl ?_
    have b61 : 0 ≤ (s40 3000) ∧ (s40 3000) ≤ 2 := hS40 3000
    refine tz_le (x := (s40 3000)) rfl rfl (by omega) (fun h62 => ?_) (fun h62 => ?_)
    · show tt Zi d 143 (124, [some (.inr (.inl 30)), some (.inl nn), some (.inl x38), x39], [], n, D, s40, p, c) _
      have hr1 : r3 ≠ 0 := by omega
      obtain ⟨hVM, hzq⟩ := hset1 hr1
      have hmo : s2 3017 = zMo (c 32 0) (s 3004) := hzq.1
      have hmZ : mv (ZM (c 32 0) (c 32 1) (c 32 2) (c 32 3) (c 32 4) (s 3004) nn) := VM_mv (hC 32 0) (by omega) hVM
      have hAB : AB E (s 3001) (s 3002) (s 3003) (zMo (c 32 0) (s 3004)) := by have h := cvp_mono (i44 (by omega)) (show s40 3003 ≤ x38 by omega); rw [pW, pH, pM, pP, hmo] at h; exact AB_y hp0 h
      have hEB : ∀ a y x : Int, (0 ≤ a ∧ a < s 3003) → (0 ≤ y ∧ y < s 3002) → (0 ≤ x ∧ x < s 3001) → 0 ≤ E a y x ∧ E a y x ≤ (ZM (c 32 0) (c 32 1) (c 32 2) (c 32 3) (c 32 4) (s 3004) nn) 3017 := fun a y x h1 h2 h3 => ⟨by rw [← hp0 a y x h1 h2 h3]; exact (hC 31 _).1, hAB a y x h1 h2 h3⟩
      have hz1 : zq (ZM (c 32 0) (c 32 1) (c 32 2) (c 32 3) (c 32 4) (s 3004) nn) (s40 3017) (s40 3018) (s40 3019) (s40 3020) (s40 3021) (s40 3022) (s40 3023) (s40 3024) (s40 3025) (s40 3026) := by rw [f42 3017 (by decide), f42 3018 (by decide), f42 3019 (by decide), f42 3020 (by decide), f42 3021 (by decide), f42 3022 (by decide), f42 3023 (by decide), f42 3024 (by decide), f42 3025 (by decide), f42 3026 (by decide)]; exact hzq
      have hmv : mv s40 := by have hm := hmZ; obtain ⟨z0, z1, z2, z3, z4, z5, z6, z7, z8, z9⟩ := hz1; unfold mv at hm ⊢; rw [z0, z1, z2, z3, z4, z5, z6, z7, z8, z9]; exact hm
      refine tt_k 3 (S' := (129, [some (.inr (.inl 30)), some (.inl nn), some (.inl x38), x39], [], n, D, (us s40 3016 0), p, c)) rfl ?_
      have hW0 : wrb W00 ((us s40 3016 0) 3016) (c 35) := ⟨rfl, fun i hi => absurd hi (by show ¬ (i : Int) < 0; omega)⟩
      refine tt_k 2 (S' := (133, [some (.inr (.inl 30)), some (.inl nn), some (.inl x38), x39], [.inl 216, .inr (.inl 30)], n, D, (us s40 3016 0), p, c)) rfl ?_
      refine tt_cl (by omega) rfl (y_mark (Zi := Zi) (D := D) (s := (us s40 3016 0)) (p := p) (c := c) (by omega) (bS_us hS40 (show 0 ≤ 0 ∧ 0 ≤ 65536 by omega)) hC W00 216 (by omega) (show 0 ≤ 65534 by omega) hW0) ?_
      rintro _ _ ⟨s63, c64, rfl, rfl, hS63, hC64, f65, g66, k67, k68⟩
      have hc69 : mv s63 := mv_fr f65 (by decide) (mv_us (by decide) hmv)
      show tt Zi d 143 (136, [some (.inr (.inl 30)), some (.inl nn), some (.inl x38), x39], [], n, D, s63, p, c64) _
      replace k67 : (s63 3016) = 0 + 2 := k67
      replace k68 : wrb (wAdd (wAdd W00 255) 216) ((s63 3016)) ((c64 35)) := k68
      have b70 : 0 ≤ (s63 3016) ∧ (s63 3016) ≤ 65536 := hS63 3016
      have e71 : s63 3000 = (s40 3000) := (f65 3000 (by decide))
      have b72 : 0 ≤ (s63 3000) ∧ (s63 3000) ≤ 2 := hS63 3000
      have e73 : s63 3001 = (s40 3001) := (f65 3001 (by decide))
      have b74 : 1 ≤ (s63 3001) ∧ (s63 3001) ≤ 64 := hS63 3001
      have e75 : s63 3002 = (s40 3002) := (f65 3002 (by decide))
      have b76 : 1 ≤ (s63 3002) ∧ (s63 3002) ≤ 64 := hS63 3002
      have e77 : s63 3017 = (s40 3017) := (f65 3017 (by decide))
      have b78 : 0 ≤ (s63 3017) ∧ (s63 3017) ≤ 65535 := hS63 3017
      have e79 : s63 3003 = (s40 3003) := (f65 3003 (by decide))
      have b80 : 1 ≤ (s63 3003) ∧ (s63 3003) ≤ 3 := hS63 3003
      have e81 : s63 3004 = (s40 3004) := (f65 3004 (by decide))
      have b82 : 2 ≤ (s63 3004) ∧ (s63 3004) ≤ 16 := hS63 3004
      have hx83 : zq (ZM (c 32 0) (c 32 1) (c 32 2) (c 32 3) (c 32 4) (s 3004) nn) (s63 3017) (s63 3018) (s63 3019) (s63 3020) (s63 3021) (s63 3022) (s63 3023) (s63 3024) (s63 3025) (s63 3026) := by rw [f65 3017 (by decide), f65 3018 (by decide), f65 3019 (by decide), f65 3020 (by decide), f65 3021 (by decide), f65 3022 (by decide), f65 3023 (by decide), f65 3024 (by decide), f65 3025 (by decide), f65 3026 (by decide)]; exact hz1
      refine tt_k 2 (S' := (140, [some (.inr (.inl 30)), some (.inl nn), some (.inl x38), x39], [.inl 247, .inr (.inl 30)], n, D, s63, p, c64)) rfl ?_
      refine tt_cl (by omega) rfl (y_mark (Zi := Zi) (D := D) (s := s63) (p := p) (c := c64) (by omega) hS63 hC64 (wAdd (wAdd W00 255) 216) 247 (by omega) (show (s63 3016) ≤ 65534 by omega) k68) ?_
      rintro _ _ ⟨s84, c85, rfl, rfl, hS84, hC85, f86, g87, k88, k89⟩
      have hc90 : mv s84 := mv_fr f86 (by decide) hc69
      show tt Zi d 143 (143, [some (.inr (.inl 30)), some (.inl nn), some (.inl x38), x39], [], n, D, s84, p, c85) _
      replace k88 : (s84 3016) = (s63 3016) + 2 := k88
      replace k89 : wrb (wAdd (wAdd (wAdd (wAdd W00 255) 216) 255) 247) ((s84 3016)) ((c85 35)) := k89
      have b91 : 0 ≤ (s84 3016) ∧ (s84 3016) ≤ 65536 := hS84 3016
      have e92 : s84 3000 = (s63 3000) := (f86 3000 (by decide))
      have b93 : 0 ≤ (s84 3000) ∧ (s84 3000) ≤ 2 := hS84 3000
      have e94 : s84 3001 = (s63 3001) := (f86 3001 (by decide))
      have b95 : 1 ≤ (s84 3001) ∧ (s84 3001) ≤ 64 := hS84 3001
      have e96 : s84 3002 = (s63 3002) := (f86 3002 (by decide))
      have b97 : 1 ≤ (s84 3002) ∧ (s84 3002) ≤ 64 := hS84 3002
      have e98 : s84 3017 = (s63 3017) := (f86 3017 (by decide))
      have b99 : 0 ≤ (s84 3017) ∧ (s84 3017) ≤ 65535 := hS84 3017
      have e100 : s84 3003 = (s63 3003) := (f86 3003 (by decide))
      have b101 : 1 ≤ (s84 3003) ∧ (s84 3003) ≤ 3 := hS84 3003
      have e102 : s84 3004 = (s63 3004) := (f86 3004 (by decide))
      have b103 : 2 ≤ (s84 3004) ∧ (s84 3004) ≤ 16 := hS84 3004
      have hx104 : zq (ZM (c 32 0) (c 32 1) (c 32 2) (c 32 3) (c 32 4) (s 3004) nn) (s84 3017) (s84 3018) (s84 3019) (s84 3020) (s84 3021) (s84 3022) (s84 3023) (s84 3024) (s84 3025) (s84 3026) := by rw [f86 3017 (by decide), f86 3018 (by decide), f86 3019 (by decide), f86 3020 (by decide), f86 3021 (by decide), f86 3022 (by decide), f86 3023 (by decide), f86 3024 (by decide), f86 3025 (by decide), f86 3026 (by decide)]; exact hx83
      refine tt_k 7 (S' := (153, [some (.inr (.inl 30)), some (.inl nn), some (.inl x38), x39], [.inl ((8 + (3 * (s84 3003)))), .inr (.inl 30)], n, D, s84, p, c85)) rfl ?_
      rw [show s84 3003 = s 3003 by omega]
      show tt Zi d 143 (153, [some (.inr (.inl 30)), some (.inl nn), some (.inl x38), x39], [.inl ((8 + (3 * (s 3003)))), .inr (.inl 30)], n, D, s84, p, c85) _
      refine tt_cl (by omega) rfl (y_two (Zi := Zi) (D := D) (s := s84) (p := p) (c := c85) (by omega) hS84 hC85 (wAdd (wAdd (wAdd (wAdd W00 255) 216) 255) 247) ((8 + (3 * (s 3003)))) (by omega) (show (s84 3016) ≤ 65534 by omega) k89) ?_
      rintro _ _ ⟨s105, c106, rfl, rfl, hS105, hC106, f107, g108, k109, k110⟩
      have hc111 : mv s105 := mv_fr f107 (by decide) hc90
      show tt Zi d 143 (156, [some (.inr (.inl 30)), some (.inl nn), some (.inl x38), x39], [], n, D, s105, p, c106) _
      replace k109 : (s105 3016) = (s84 3016) + 2 := k109
      replace k110 : wrb (wAdd (wAdd (wAdd (wAdd (wAdd (wAdd W00 255) 216) 255) 247) (mi_shr ((8 + (3 * (s 3003)))) 8)) ((8 + (3 * (s 3003))))) ((s105 3016)) ((c106 35)) := k110
      have b112 : 0 ≤ (s105 3016) ∧ (s105 3016) ≤ 65536 := hS105 3016
      have e113 : s105 3000 = (s84 3000) := (f107 3000 (by decide))
      have b114 : 0 ≤ (s105 3000) ∧ (s105 3000) ≤ 2 := hS105 3000
      have e115 : s105 3001 = (s84 3001) := (f107 3001 (by decide))
      have b116 : 1 ≤ (s105 3001) ∧ (s105 3001) ≤ 64 := hS105 3001
      have e117 : s105 3002 = (s84 3002) := (f107 3002 (by decide))
      have b118 : 1 ≤ (s105 3002) ∧ (s105 3002) ≤ 64 := hS105 3002
      have e119 : s105 3017 = (s84 3017) := (f107 3017 (by decide))
      have b120 : 0 ≤ (s105 3017) ∧ (s105 3017) ≤ 65535 := hS105 3017
      have e121 : s105 3003 = (s84 3003) := (f107 3003 (by decide))
      have b122 : 1 ≤ (s105 3003) ∧ (s105 3003) ≤ 3 := hS105 3003
      have e123 : s105 3004 = (s84 3004) := (f107 3004 (by decide))
      have b124 : 2 ≤ (s105 3004) ∧ (s105 3004) ≤ 16 := hS105 3004
      have hx125 : zq (ZM (c 32 0) (c 32 1) (c 32 2) (c 32 3) (c 32 4) (s 3004) nn) (s105 3017) (s105 3018) (s105 3019) (s105 3020) (s105 3021) (s105 3022) (s105 3023) (s105 3024) (s105 3025) (s105 3026) := by rw [f107 3017 (by decide), f107 3018 (by decide), f107 3019 (by decide), f107 3020 (by decide), f107 3021 (by decide), f107 3022 (by decide), f107 3023 (by decide), f107 3024 (by decide), f107 3025 (by decide), f107 3026 (by decide)]; exact hx104
      refine tt_k 3 (S' := (161, [some (.inr (.inl 30)), some (.inl nn), some (.inl x38), x39], [.inl (s105 3004), .inr (.inl 30)], n, D, s105, p, c106)) rfl ?_
      rw [show s105 3004 = s 3004 by omega]
      show tt Zi d 143 (161, [some (.inr (.inl 30)), some (.inl nn), some (.inl x38), x39], [.inl (s 3004), .inr (.inl 30)], n, D, s105, p, c106) _
      refine tt_cl (by omega) rfl (y_add (Zi := Zi) (D := D) (s := s105) (p := p) (c := c106) (by omega) hS105 hC106 (wAdd (wAdd (wAdd (wAdd (wAdd (wAdd W00 255) 216) 255) 247) (mi_shr ((8 + (3 * (s 3003)))) 8)) ((8 + (3 * (s 3003))))) (s 3004) (by omega) (show (s105 3016) ≤ 65535 by omega) k110) ?_
      rintro _ _ ⟨s126, c127, rfl, rfl, hS126, hC127, f128, g129, k130, k131⟩
      have hc132 : mv s126 := mv_fr f128 (by decide) hc111
      show tt Zi d 143 (164, [some (.inr (.inl 30)), some (.inl nn), some (.inl x38), x39], [], n, D, s126, p, c127) _
      replace k130 : (s126 3016) = (s105 3016) + 1 := k130
      replace k131 : wrb (wAdd (wAdd (wAdd (wAdd (wAdd (wAdd (wAdd W00 255) 216) 255) 247) (mi_shr ((8 + (3 * (s 3003)))) 8)) ((8 + (3 * (s 3003))))) (s 3004)) ((s126 3016)) ((c127 35)) := k131
      have b133 : 0 ≤ (s126 3016) ∧ (s126 3016) ≤ 65536 := hS126 3016
      have e134 : s126 3000 = (s105 3000) := (f128 3000 (by decide))
      have b135 : 0 ≤ (s126 3000) ∧ (s126 3000) ≤ 2 := hS126 3000
      have e136 : s126 3001 = (s105 3001) := (f128 3001 (by decide))
      have b137 : 1 ≤ (s126 3001) ∧ (s126 3001) ≤ 64 := hS126 3001
      have e138 : s126 3002 = (s105 3002) := (f128 3002 (by decide))
      have b139 : 1 ≤ (s126 3002) ∧ (s126 3002) ≤ 64 := hS126 3002
      have e140 : s126 3017 = (s105 3017) := (f128 3017 (by decide))
      have b141 : 0 ≤ (s126 3017) ∧ (s126 3017) ≤ 65535 := hS126 3017
      have e142 : s126 3003 = (s105 3003) := (f128 3003 (by decide))
      have b143 : 1 ≤ (s126 3003) ∧ (s126 3003) ≤ 3 := hS126 3003
      have e144 : s126 3004 = (s105 3004) := (f128 3004 (by decide))
      have b145 : 2 ≤ (s126 3004) ∧ (s126 3004) ≤ 16 := hS126 3004
      have hx146 : zq (ZM (c 32 0) (c 32 1) (c 32 2) (c 32 3) (c 32 4) (s 3004) nn) (s126 3017) (s126 3018) (s126 3019) (s126 3020) (s126 3021) (s126 3022) (s126 3023) (s126 3024) (s126 3025) (s126 3026) := by rw [f128 3017 (by decide), f128 3018 (by decide), f128 3019 (by decide), f128 3020 (by decide), f128 3021 (by decide), f128 3022 (by decide), f128 3023 (by decide), f128 3024 (by decide), f128 3025 (by decide), f128 3026 (by decide)]; exact hx125
      refine tt_k 3 (S' := (169, [some (.inr (.inl 30)), some (.inl nn), some (.inl x38), x39], [.inl (s126 3002), .inr (.inl 30)], n, D, s126, p, c127)) rfl ?_
      rw [show s126 3002 = s 3002 by omega]
      show tt Zi d 143 (169, [some (.inr (.inl 30)), some (.inl nn), some (.inl x38), x39], [.inl (s 3002), .inr (.inl 30)], n, D, s126, p, c127) _
      refine tt_cl (by omega) rfl (y_two (Zi := Zi) (D := D) (s := s126) (p := p) (c := c127) (by omega) hS126 hC127 (wAdd (wAdd (wAdd (wAdd (wAdd (wAdd (wAdd W00 255) 216) 255) 247) (mi_shr ((8 + (3 * (s 3003)))) 8)) ((8 + (3 * (s 3003))))) (s 3004)) (s 3002) (by omega) (show (s126 3016) ≤ 65534 by omega) k131) ?_
      rintro _ _ ⟨s147, c148, rfl, rfl, hS147, hC148, f149, g150, k151, k152⟩
      have hc153 : mv s147 := mv_fr f149 (by decide) hc132
      show tt Zi d 143 (172, [some (.inr (.inl 30)), some (.inl nn), some (.inl x38), x39], [], n, D, s147, p, c148) _
      replace k151 : (s147 3016) = (s126 3016) + 2 := k151
      replace k152 : wrb (wAdd (wAdd (wAdd (wAdd (wAdd (wAdd (wAdd (wAdd (wAdd W00 255) 216) 255) 247) (mi_shr ((8 + (3 * (s 3003)))) 8)) ((8 + (3 * (s 3003))))) (s 3004)) (mi_shr (s 3002) 8)) (s 3002)) ((s147 3016)) ((c148 35)) := k152
      have b154 : 0 ≤ (s147 3016) ∧ (s147 3016) ≤ 65536 := hS147 3016
      have e155 : s147 3000 = (s126 3000) := (f149 3000 (by decide))
      have b156 : 0 ≤ (s147 3000) ∧ (s147 3000) ≤ 2 := hS147 3000
      have e157 : s147 3001 = (s126 3001) := (f149 3001 (by decide))
      have b158 : 1 ≤ (s147 3001) ∧ (s147 3001) ≤ 64 := hS147 3001
      have e159 : s147 3002 = (s126 3002) := (f149 3002 (by decide))
      have b160 : 1 ≤ (s147 3002) ∧ (s147 3002) ≤ 64 := hS147 3002
      have e161 : s147 3017 = (s126 3017) := (f149 3017 (by decide))
      have b162 : 0 ≤ (s147 3017) ∧ (s147 3017) ≤ 65535 := hS147 3017
      have e163 : s147 3003 = (s126 3003) := (f149 3003 (by decide))
      have b164 : 1 ≤ (s147 3003) ∧ (s147 3003) ≤ 3 := hS147 3003
      have e165 : s147 3004 = (s126 3004) := (f149 3004 (by decide))
      have b166 : 2 ≤ (s147 3004) ∧ (s147 3004) ≤ 16 := hS147 3004
      have hx167 : zq (ZM (c 32 0) (c 32 1) (c 32 2) (c 32 3) (c 32 4) (s 3004) nn) (s147 3017) (s147 3018) (s147 3019) (s147 3020) (s147 3021) (s147 3022) (s147 3023) (s147 3024) (s147 3025) (s147 3026) := by rw [f149 3017 (by decide), f149 3018 (by decide), f149 3019 (by decide), f149 3020 (by decide), f149 3021 (by decide), f149 3022 (by decide), f149 3023 (by decide), f149 3024 (by decide), f149 3025 (by decide), f149 3026 (by decide)]; exact hx146
      refine tt_k 3 (S' := (177, [some (.inr (.inl 30)), some (.inl nn), some (.inl x38), x39], [.inl (s147 3001), .inr (.inl 30)], n, D, s147, p, c148)) rfl ?_
      rw [show s147 3001 = s 3001 by omega]
      show tt Zi d 143 (177, [some (.inr (.inl 30)), some (.inl nn), some (.inl x38), x39], [.inl (s 3001), .inr (.inl 30)], n, D, s147, p, c148) _
      refine tt_cl (by omega) rfl (y_two (Zi := Zi) (D := D) (s := s147) (p := p) (c := c148) (by omega) hS147 hC148 (wAdd (wAdd (wAdd (wAdd (wAdd (wAdd (wAdd (wAdd (wAdd W00 255) 216) 255) 247) (mi_shr ((8 + (3 * (s 3003)))) 8)) ((8 + (3 * (s 3003))))) (s 3004)) (mi_shr (s 3002) 8)) (s 3002)) (s 3001) (by omega) (show (s147 3016) ≤ 65534 by omega) k152) ?_
      rintro _ _ ⟨s168, c169, rfl, rfl, hS168, hC169, f170, g171, k172, k173⟩
      have hc174 : mv s168 := mv_fr f170 (by decide) hc153
      show tt Zi d 143 (180, [some (.inr (.inl 30)), some (.inl nn), some (.inl x38), x39], [], n, D, s168, p, c169) _
      replace k172 : (s168 3016) = (s147 3016) + 2 := k172
      replace k173 : wrb (wAdd (wAdd (wAdd (wAdd (wAdd (wAdd (wAdd (wAdd (wAdd (wAdd (wAdd W00 255) 216) 255) 247) (mi_shr ((8 + (3 * (s 3003)))) 8)) ((8 + (3 * (s 3003))))) (s 3004)) (mi_shr (s 3002) 8)) (s 3002)) (mi_shr (s 3001) 8)) (s 3001)) ((s168 3016)) ((c169 35)) := k173
      have b175 : 0 ≤ (s168 3016) ∧ (s168 3016) ≤ 65536 := hS168 3016
      have e176 : s168 3000 = (s147 3000) := (f170 3000 (by decide))
      have b177 : 0 ≤ (s168 3000) ∧ (s168 3000) ≤ 2 := hS168 3000
      have e178 : s168 3001 = (s147 3001) := (f170 3001 (by decide))
      have b179 : 1 ≤ (s168 3001) ∧ (s168 3001) ≤ 64 := hS168 3001
      have e180 : s168 3002 = (s147 3002) := (f170 3002 (by decide))
      have b181 : 1 ≤ (s168 3002) ∧ (s168 3002) ≤ 64 := hS168 3002
      have e182 : s168 3017 = (s147 3017) := (f170 3017 (by decide))
      have b183 : 0 ≤ (s168 3017) ∧ (s168 3017) ≤ 65535 := hS168 3017
      have e184 : s168 3003 = (s147 3003) := (f170 3003 (by decide))
      have b185 : 1 ≤ (s168 3003) ∧ (s168 3003) ≤ 3 := hS168 3003
      have e186 : s168 3004 = (s147 3004) := (f170 3004 (by decide))
      have b187 : 2 ≤ (s168 3004) ∧ (s168 3004) ≤ 16 := hS168 3004
      have hx188 : zq (ZM (c 32 0) (c 32 1) (c 32 2) (c 32 3) (c 32 4) (s 3004) nn) (s168 3017) (s168 3018) (s168 3019) (s168 3020) (s168 3021) (s168 3022) (s168 3023) (s168 3024) (s168 3025) (s168 3026) := by rw [f170 3017 (by decide), f170 3018 (by decide), f170 3019 (by decide), f170 3020 (by decide), f170 3021 (by decide), f170 3022 (by decide), f170 3023 (by decide), f170 3024 (by decide), f170 3025 (by decide), f170 3026 (by decide)]; exact hx167
      refine tt_k 3 (S' := (185, [some (.inr (.inl 30)), some (.inl nn), some (.inl x38), x39], [.inl (s168 3003), .inr (.inl 30)], n, D, s168, p, c169)) rfl ?_
      rw [show s168 3003 = s 3003 by omega]
      show tt Zi d 143 (185, [some (.inr (.inl 30)), some (.inl nn), some (.inl x38), x39], [.inl (s 3003), .inr (.inl 30)], n, D, s168, p, c169) _
      refine tt_cl (by omega) rfl (y_add (Zi := Zi) (D := D) (s := s168) (p := p) (c := c169) (by omega) hS168 hC169 (wAdd (wAdd (wAdd (wAdd (wAdd (wAdd (wAdd (wAdd (wAdd (wAdd (wAdd W00 255) 216) 255) 247) (mi_shr ((8 + (3 * (s 3003)))) 8)) ((8 + (3 * (s 3003))))) (s 3004)) (mi_shr (s 3002) 8)) (s 3002)) (mi_shr (s 3001) 8)) (s 3001)) (s 3003) (by omega) (show (s168 3016) ≤ 65535 by omega) k173) ?_
      rintro _ _ ⟨s189, c190, rfl, rfl, hS189, hC190, f191, g192, k193, k194⟩
      have hc195 : mv s189 := mv_fr f191 (by decide) hc174
      show tt Zi d 143 (188, [some (.inr (.inl 30)), some (.inl nn), some (.inl x38), x39], [], n, D, s189, p, c190) _
      replace k193 : (s189 3016) = (s168 3016) + 1 := k193
      replace k194 : wrb (wAdd (wAdd (wAdd (wAdd (wAdd (wAdd (wAdd (wAdd (wAdd (wAdd (wAdd (wAdd W00 255) 216) 255) 247) (mi_shr ((8 + (3 * (s 3003)))) 8)) ((8 + (3 * (s 3003))))) (s 3004)) (mi_shr (s 3002) 8)) (s 3002)) (mi_shr (s 3001) 8)) (s 3001)) (s 3003)) ((s189 3016)) ((c190 35)) := k194
      have b196 : 0 ≤ (s189 3016) ∧ (s189 3016) ≤ 65536 := hS189 3016
      have e197 : s189 3000 = (s168 3000) := (f191 3000 (by decide))
      have b198 : 0 ≤ (s189 3000) ∧ (s189 3000) ≤ 2 := hS189 3000
      have e199 : s189 3001 = (s168 3001) := (f191 3001 (by decide))
      have b200 : 1 ≤ (s189 3001) ∧ (s189 3001) ≤ 64 := hS189 3001
      have e201 : s189 3002 = (s168 3002) := (f191 3002 (by decide))
      have b202 : 1 ≤ (s189 3002) ∧ (s189 3002) ≤ 64 := hS189 3002
      have e203 : s189 3017 = (s168 3017) := (f191 3017 (by decide))
      have b204 : 0 ≤ (s189 3017) ∧ (s189 3017) ≤ 65535 := hS189 3017
      have e205 : s189 3003 = (s168 3003) := (f191 3003 (by decide))
      have b206 : 1 ≤ (s189 3003) ∧ (s189 3003) ≤ 3 := hS189 3003
      have e207 : s189 3004 = (s168 3004) := (f191 3004 (by decide))
      have b208 : 2 ≤ (s189 3004) ∧ (s189 3004) ≤ 16 := hS189 3004
      have hx209 : zq (ZM (c 32 0) (c 32 1) (c 32 2) (c 32 3) (c 32 4) (s 3004) nn) (s189 3017) (s189 3018) (s189 3019) (s189 3020) (s189 3021) (s189 3022) (s189 3023) (s189 3024) (s189 3025) (s189 3026) := by rw [f191 3017 (by decide), f191 3018 (by decide), f191 3019 (by decide), f191 3020 (by decide), f191 3021 (by decide), f191 3022 (by decide), f191 3023 (by decide), f191 3024 (by decide), f191 3025 (by decide), f191 3026 (by decide)]; exact hx188
      refine tt_k 2 (S' := (190, [some (.inr (.inl 30)), some (.inl nn), some (.inl 0), x39], [], n, D, s189, p, c190)) rfl ?_
      refine x_pack_L190 (Zi := Zi) (D := D) (s := s189) (p := p) (c := c190) hd hS189 hC190 (pFr (s 3003).toNat 0 (wAdd (wAdd (wAdd (wAdd (wAdd (wAdd (wAdd (wAdd (wAdd (wAdd (wAdd (wAdd W00 255) 216) 255) 247) (mi_shr ((8 + (3 * (s 3003)))) 8)) ((8 + (3 * (s 3003))))) (s 3004)) (mi_shr (s 3002) 8)) (s 3002)) (mi_shr (s 3001) 8)) (s 3001)) (s 3003)))  (show (s189 3016) ≤ 20 by omega) ?_ _ 0 s189 c190 (by omega) hS189 fr_rf hC190 frc_rf (show (s189 3016) = (s189 3016) + 3 * 0 by omega) (show 0 ≤ (s189 3003) by omega) ⟨_, k194, by rw [Int.sub_zero, show s189 3003 = s 3003 by omega]⟩ (Nat.lt_succ_self _)
      intro x210 s211 c212 b213 hS211 f214 hC212 g215 i216 i217 i218 hx219
      show tt Zi d 143 (222, [some (.inr (.inl 30)), some (.inl nn), some (.inl x210), x39], [], n, D, s211, p, c212) _
      have hc220 : mv s211 := mv_fr f214 (by decide) hc195
      have e221 : s211 3000 = (s189 3000) := (f214 3000 (by decide))
      have b222 : 0 ≤ (s211 3000) ∧ (s211 3000) ≤ 2 := hS211 3000
      have e223 : s211 3001 = (s189 3001) := (f214 3001 (by decide))
      have b224 : 1 ≤ (s211 3001) ∧ (s211 3001) ≤ 64 := hS211 3001
      have e225 : s211 3002 = (s189 3002) := (f214 3002 (by decide))
      have b226 : 1 ≤ (s211 3002) ∧ (s211 3002) ≤ 64 := hS211 3002
      have e227 : s211 3017 = (s189 3017) := (f214 3017 (by decide))
      have b228 : 0 ≤ (s211 3017) ∧ (s211 3017) ≤ 65535 := hS211 3017
      have e229 : s211 3003 = (s189 3003) := (f214 3003 (by decide))
      have b230 : 1 ≤ (s211 3003) ∧ (s211 3003) ≤ 3 := hS211 3003
      have e231 : s211 3004 = (s189 3004) := (f214 3004 (by decide))
      have b232 : 2 ≤ (s211 3004) ∧ (s211 3004) ≤ 16 := hS211 3004
      have hx233 : zq (ZM (c 32 0) (c 32 1) (c 32 2) (c 32 3) (c 32 4) (s 3004) nn) (s211 3017) (s211 3018) (s211 3019) (s211 3020) (s211 3021) (s211 3022) (s211 3023) (s211 3024) (s211 3025) (s211 3026) := by rw [f214 3017 (by decide), f214 3018 (by decide), f214 3019 (by decide), f214 3020 (by decide), f214 3021 (by decide), f214 3022 (by decide), f214 3023 (by decide), f214 3024 (by decide), f214 3025 (by decide), f214 3026 (by decide)]; exact hx209
      obtain ⟨W9, hw9, hw8⟩ := i218
      rw [show (s189 3003 - x210).toNat = 0 by omega, pFr] at hw8
      subst hw8
      refine tt_k 4 (S' := (226, [some (.inr (.inl 30)), some (.inl nn), some (.inl 0), some (.inl 0)], [], n, D, s211, p, c212)) rfl ?_
      refine x_pack_L226 (Zi := Zi) (D := D) (s := s211) (p := p) (c := c212) hd hS211 hC212    ?_ _ 0 0  (by omega) (by omega) (fun _ j h1 h2 => absurd h2 (by omega)) (fun h => absurd rfl h) (Nat.lt_succ_self _)
      intro x234 x235 b236 b237 i238 i239 hx240
      show tt Zi d 143 (256, [some (.inr (.inl 30)), some (.inl nn), some (.inl x234), some (.inl x235)], [], n, D, s211, p, c212) _
      have x32 : c212 32 = c 32 := ((g215 32 (by decide)).trans ((g192 32 (by decide)).trans ((g171 32 (by decide)).trans ((g150 32 (by decide)).trans ((g129 32 (by decide)).trans ((g108 32 (by decide)).trans ((g87 32 (by decide)).trans (g66 32 (by decide)))))))))
      refine tt_k 1 (S' := (257, [some (.inr (.inl 30)), some (.inl nn), some (.inl x234), some (.inl x235)], [.inl x234], n, D, s211, p, c212)) rfl ?_
      refine tz_eq (x := x234) rfl rfl (by omega) (fun h241 => ?_) (fun h241 => ?_)
      · show tt Zi d 143 (301, [some (.inr (.inl 30)), some (.inl nn), some (.inl x234), some (.inl x235)], [], n, D, s211, p, c212) _
        have qW : s211 3001 = s 3001 := by omega
        have qH : s211 3002 = s 3002 := by omega
        have qP : s211 3003 = s 3003 := by omega
        have x31 : c212 31 = c 31 := ((g215 31 (by decide)).trans ((g192 31 (by decide)).trans ((g171 31 (by decide)).trans ((g150 31 (by decide)).trans ((g129 31 (by decide)).trans ((g108 31 (by decide)).trans ((g87 31 (by decide)).trans (g66 31 (by decide)))))))))
        have hch := z5_of (fun j h1 h2 => i238 (by omega) j h1 (by omega))
        rw [x32] at hch
        have hms : wrb (pMs (c 32 0) (c 32 1) (c 32 2) (c 32 3) (c 32 4) (pFm (s 3001) (s 3002) (s 3003) (s 3004) (pMk W00 216))) (s211 3016) (c212 35) := by unfold pMs; rw [if_pos hch]; exact hw9
        have b242 : 0 ≤ (s211 3016) ∧ (s211 3016) ≤ 65536 := hS211 3016
        have b243 : -2147483648 ≤ (s211 3018) ∧ (s211 3018) ≤ 2147483647 := hS211 3018
        have b244 : -2147483648 ≤ (s211 3019) ∧ (s211 3019) ≤ 2147483647 := hS211 3019
        have b245 : -2147483648 ≤ (s211 3020) ∧ (s211 3020) ≤ 2147483647 := hS211 3020
        have b246 : -2147483648 ≤ (s211 3021) ∧ (s211 3021) ≤ 2147483647 := hS211 3021
        have b247 : 0 ≤ (s211 3022) ∧ (s211 3022) ≤ 65535 := hS211 3022
        have b248 : -2147483648 ≤ (s211 3023) ∧ (s211 3023) ≤ 2147483647 := hS211 3023
        have b249 : -2147483648 ≤ (s211 3024) ∧ (s211 3024) ≤ 2147483647 := hS211 3024
        have b250 : 0 ≤ (s211 3025) ∧ (s211 3025) ≤ 31 := hS211 3025
        have b251 : 0 ≤ (s211 3026) ∧ (s211 3026) ≤ 96 := hS211 3026
        refine tt_mono (x_packC (Zi := Zi) (D := D) (s := s211) (p := p) (c := c212) (by omega) hS211 hC212 (ZM (c 32 0) (c 32 1) (c 32 2) (c 32 3) (c 32 4) (s 3004) nn) E (pMs (c 32 0) (c 32 1) (c 32 2) (c 32 3) (c 32 4) (pFm (s 3001) (s 3002) (s 3003) (s 3004) (pMk W00 216))) (kOr (c 40) (c 41) (c 42) (c 43)) nn x234 x235 (by omega) hc220 (show (s211 3016) ≤ 64 by omega) (by rw [qW, qH, qP, x31]; exact hp0) (by rw [qW, qH, qP]; exact hEB) hx233 hmZ hms (by rw [show c212 40 = c 40 from ((g215 40 (by decide)).trans ((g192 40 (by decide)).trans ((g171 40 (by decide)).trans ((g150 40 (by decide)).trans ((g129 40 (by decide)).trans ((g108 40 (by decide)).trans ((g87 40 (by decide)).trans (g66 40 (by decide))))))))), show c212 41 = c 41 from ((g215 41 (by decide)).trans ((g192 41 (by decide)).trans ((g171 41 (by decide)).trans ((g150 41 (by decide)).trans ((g129 41 (by decide)).trans ((g108 41 (by decide)).trans ((g87 41 (by decide)).trans (g66 41 (by decide))))))))), show c212 42 = c 42 from ((g215 42 (by decide)).trans ((g192 42 (by decide)).trans ((g171 42 (by decide)).trans ((g150 42 (by decide)).trans ((g129 42 (by decide)).trans ((g108 42 (by decide)).trans ((g87 42 (by decide)).trans (g66 42 (by decide))))))))), show c212 43 = c 43 from ((g215 43 (by decide)).trans ((g192 43 (by decide)).trans ((g171 43 (by decide)).trans ((g150 43 (by decide)).trans ((g129 43 (by decide)).trans ((g108 43 (by decide)).trans ((g87 43 (by decide)).trans (g66 43 (by decide)))))))))]; exact mrl_of)) ?_
        rintro _ _ ⟨s252, c253, r254, rfl, rfl, hS252, hC253, f255, g256, b257, k258, k259, k260⟩
        have tw := k258
        rw [qW, qH, qP] at tw
        have hcf : s252 3000 = s211 3000 := f255 3000 (by decide)
        have tk := k260
        rw [qW, qH, qP] at tk
        exact ⟨s252, c253, r254, rfl, rfl, hS252, hC253, (fr_tr (fr_tr (fr_tr (fr_tr (fr_tr (fr_tr (fr_tr (fr_tr (fr_tr (fr_us (by decide) (fr_tr (fr_us (by decide) (fr_tr fr_rf f4 (by decide))) f42 (by decide))) f65 (by decide)) f86 (by decide)) f107 (by decide)) f128 (by decide)) f149 (by decide)) f170 (by decide)) f191 (by decide)) f214 (by decide)) f255 (by decide)), (frc_tr (frc_tr (frc_tr (frc_tr (frc_tr (frc_tr (frc_tr (frc_tr (frc_tr frc_rf g66 (by decide)) g87 (by decide)) g108 (by decide)) g129 (by decide)) g150 (by decide)) g171 (by decide)) g192 (by decide)) g215 (by decide)) g256 (by decide)), by omega, Or.inl ⟨by omega, ⟨hVM, hAB⟩, tw, k259, tk⟩⟩
      · show tt Zi d 143 (260, [some (.inr (.inl 30)), some (.inl nn), some (.inl x234), some (.inl x235)], [], n, D, s211, p, c212) _
        refine tt_k 2 (S' := (264, [some (.inr (.inl 30)), some (.inl nn), some (.inl x234), some (.inl x235)], [.inl 248, .inr (.inl 30)], n, D, s211, p, c212)) rfl ?_
        have b261 : 0 ≤ (s211 3016) ∧ (s211 3016) ≤ 65536 := hS211 3016
        refine tt_cl (by omega) rfl (y_mark (Zi := Zi) (D := D) (s := s211) (p := p) (c := c212) (by omega) hS211 hC212 (pFr (s 3003).toNat 0 (wAdd (wAdd (wAdd (wAdd (wAdd (wAdd (wAdd (wAdd (wAdd (wAdd (wAdd (wAdd W00 255) 216) 255) 247) (mi_shr ((8 + (3 * (s 3003)))) 8)) ((8 + (3 * (s 3003))))) (s 3004)) (mi_shr (s 3002) 8)) (s 3002)) (mi_shr (s 3001) 8)) (s 3001)) (s 3003))) 248 (by omega) (show (s211 3016) ≤ 65534 by omega) hw9) ?_
        rintro _ _ ⟨s262, c263, rfl, rfl, hS262, hC263, f264, g265, k266, k267⟩
        have hc268 : mv s262 := mv_fr f264 (by decide) hc220
        show tt Zi d 143 (267, [some (.inr (.inl 30)), some (.inl nn), some (.inl x234), some (.inl x235)], [], n, D, s262, p, c263) _
        replace k266 : (s262 3016) = (s211 3016) + 2 := k266
        replace k267 : wrb (wAdd (wAdd (pFr (s 3003).toNat 0 (wAdd (wAdd (wAdd (wAdd (wAdd (wAdd (wAdd (wAdd (wAdd (wAdd (wAdd (wAdd W00 255) 216) 255) 247) (mi_shr ((8 + (3 * (s 3003)))) 8)) ((8 + (3 * (s 3003))))) (s 3004)) (mi_shr (s 3002) 8)) (s 3002)) (mi_shr (s 3001) 8)) (s 3001)) (s 3003))) 255) 248) ((s262 3016)) ((c263 35)) := k267
        have b269 : 0 ≤ (s262 3016) ∧ (s262 3016) ≤ 65536 := hS262 3016
        have e270 : s262 3000 = (s211 3000) := (f264 3000 (by decide))
        have b271 : 0 ≤ (s262 3000) ∧ (s262 3000) ≤ 2 := hS262 3000
        have e272 : s262 3001 = (s211 3001) := (f264 3001 (by decide))
        have b273 : 1 ≤ (s262 3001) ∧ (s262 3001) ≤ 64 := hS262 3001
        have e274 : s262 3002 = (s211 3002) := (f264 3002 (by decide))
        have b275 : 1 ≤ (s262 3002) ∧ (s262 3002) ≤ 64 := hS262 3002
        have e276 : s262 3017 = (s211 3017) := (f264 3017 (by decide))
        have b277 : 0 ≤ (s262 3017) ∧ (s262 3017) ≤ 65535 := hS262 3017
        have e278 : s262 3003 = (s211 3003) := (f264 3003 (by decide))
        have b279 : 1 ≤ (s262 3003) ∧ (s262 3003) ≤ 3 := hS262 3003
        have e280 : s262 3004 = (s211 3004) := (f264 3004 (by decide))
        have b281 : 2 ≤ (s262 3004) ∧ (s262 3004) ≤ 16 := hS262 3004
        have hx282 : zq (ZM (c 32 0) (c 32 1) (c 32 2) (c 32 3) (c 32 4) (s 3004) nn) (s262 3017) (s262 3018) (s262 3019) (s262 3020) (s262 3021) (s262 3022) (s262 3023) (s262 3024) (s262 3025) (s262 3026) := by rw [f264 3017 (by decide), f264 3018 (by decide), f264 3019 (by decide), f264 3020 (by decide), f264 3021 (by decide), f264 3022 (by decide), f264 3023 (by decide), f264 3024 (by decide), f264 3025 (by decide), f264 3026 (by decide)]; exact hx233
        refine tt_k 2 (S' := (270, [some (.inr (.inl 30)), some (.inl nn), some (.inl x234), some (.inl x235)], [.inl 13, .inr (.inl 30)], n, D, s262, p, c263)) rfl ?_
        refine tt_cl (by omega) rfl (y_two (Zi := Zi) (D := D) (s := s262) (p := p) (c := c263) (by omega) hS262 hC263 (wAdd (wAdd (pFr (s 3003).toNat 0 (wAdd (wAdd (wAdd (wAdd (wAdd (wAdd (wAdd (wAdd (wAdd (wAdd (wAdd (wAdd W00 255) 216) 255) 247) (mi_shr ((8 + (3 * (s 3003)))) 8)) ((8 + (3 * (s 3003))))) (s 3004)) (mi_shr (s 3002) 8)) (s 3002)) (mi_shr (s 3001) 8)) (s 3001)) (s 3003))) 255) 248) 13 (by omega) (show (s262 3016) ≤ 65534 by omega) k267) ?_
        rintro _ _ ⟨s283, c284, rfl, rfl, hS283, hC284, f285, g286, k287, k288⟩
        have hc289 : mv s283 := mv_fr f285 (by decide) hc268
        show tt Zi d 143 (273, [some (.inr (.inl 30)), some (.inl nn), some (.inl x234), some (.inl x235)], [], n, D, s283, p, c284) _
        replace k287 : (s283 3016) = (s262 3016) + 2 := k287
        replace k288 : wrb (wAdd (wAdd (wAdd (wAdd (pFr (s 3003).toNat 0 (wAdd (wAdd (wAdd (wAdd (wAdd (wAdd (wAdd (wAdd (wAdd (wAdd (wAdd (wAdd W00 255) 216) 255) 247) (mi_shr ((8 + (3 * (s 3003)))) 8)) ((8 + (3 * (s 3003))))) (s 3004)) (mi_shr (s 3002) 8)) (s 3002)) (mi_shr (s 3001) 8)) (s 3001)) (s 3003))) 255) 248) (mi_shr 13 8)) 13) ((s283 3016)) ((c284 35)) := k288
        have b290 : 0 ≤ (s283 3016) ∧ (s283 3016) ≤ 65536 := hS283 3016
        have e291 : s283 3000 = (s262 3000) := (f285 3000 (by decide))
        have b292 : 0 ≤ (s283 3000) ∧ (s283 3000) ≤ 2 := hS283 3000
        have e293 : s283 3001 = (s262 3001) := (f285 3001 (by decide))
        have b294 : 1 ≤ (s283 3001) ∧ (s283 3001) ≤ 64 := hS283 3001
        have e295 : s283 3002 = (s262 3002) := (f285 3002 (by decide))
        have b296 : 1 ≤ (s283 3002) ∧ (s283 3002) ≤ 64 := hS283 3002
        have e297 : s283 3017 = (s262 3017) := (f285 3017 (by decide))
        have b298 : 0 ≤ (s283 3017) ∧ (s283 3017) ≤ 65535 := hS283 3017
        have e299 : s283 3003 = (s262 3003) := (f285 3003 (by decide))
        have b300 : 1 ≤ (s283 3003) ∧ (s283 3003) ≤ 3 := hS283 3003
        have e301 : s283 3004 = (s262 3004) := (f285 3004 (by decide))
        have b302 : 2 ≤ (s283 3004) ∧ (s283 3004) ≤ 16 := hS283 3004
        have hx303 : zq (ZM (c 32 0) (c 32 1) (c 32 2) (c 32 3) (c 32 4) (s 3004) nn) (s283 3017) (s283 3018) (s283 3019) (s283 3020) (s283 3021) (s283 3022) (s283 3023) (s283 3024) (s283 3025) (s283 3026) := by rw [f285 3017 (by decide), f285 3018 (by decide), f285 3019 (by decide), f285 3020 (by decide), f285 3021 (by decide), f285 3022 (by decide), f285 3023 (by decide), f285 3024 (by decide), f285 3025 (by decide), f285 3026 (by decide)]; exact hx282
        refine tt_k 2 (S' := (275, [some (.inr (.inl 30)), some (.inl nn), some (.inl x234), some (.inl x235)], [.inl 1, .inr (.inl 30)], n, D, s283, p, c284)) rfl ?_
        refine tt_cl (by omega) rfl (y_add (Zi := Zi) (D := D) (s := s283) (p := p) (c := c284) (by omega) hS283 hC284 (wAdd (wAdd (wAdd (wAdd (pFr (s 3003).toNat 0 (wAdd (wAdd (wAdd (wAdd (wAdd (wAdd (wAdd (wAdd (wAdd (wAdd (wAdd (wAdd W00 255) 216) 255) 247) (mi_shr ((8 + (3 * (s 3003)))) 8)) ((8 + (3 * (s 3003))))) (s 3004)) (mi_shr (s 3002) 8)) (s 3002)) (mi_shr (s 3001) 8)) (s 3001)) (s 3003))) 255) 248) (mi_shr 13 8)) 13) 1 (by omega) (show (s283 3016) ≤ 65535 by omega) k288) ?_
        rintro _ _ ⟨s304, c305, rfl, rfl, hS304, hC305, f306, g307, k308, k309⟩
        have hc310 : mv s304 := mv_fr f306 (by decide) hc289
        show tt Zi d 143 (278, [some (.inr (.inl 30)), some (.inl nn), some (.inl x234), some (.inl x235)], [], n, D, s304, p, c305) _
        replace k308 : (s304 3016) = (s283 3016) + 1 := k308
        replace k309 : wrb (wAdd (wAdd (wAdd (wAdd (wAdd (pFr (s 3003).toNat 0 (wAdd (wAdd (wAdd (wAdd (wAdd (wAdd (wAdd (wAdd (wAdd (wAdd (wAdd (wAdd W00 255) 216) 255) 247) (mi_shr ((8 + (3 * (s 3003)))) 8)) ((8 + (3 * (s 3003))))) (s 3004)) (mi_shr (s 3002) 8)) (s 3002)) (mi_shr (s 3001) 8)) (s 3001)) (s 3003))) 255) 248) (mi_shr 13 8)) 13) 1) ((s304 3016)) ((c305 35)) := k309
        have b311 : 0 ≤ (s304 3016) ∧ (s304 3016) ≤ 65536 := hS304 3016
        have e312 : s304 3000 = (s283 3000) := (f306 3000 (by decide))
        have b313 : 0 ≤ (s304 3000) ∧ (s304 3000) ≤ 2 := hS304 3000
        have e314 : s304 3001 = (s283 3001) := (f306 3001 (by decide))
        have b315 : 1 ≤ (s304 3001) ∧ (s304 3001) ≤ 64 := hS304 3001
        have e316 : s304 3002 = (s283 3002) := (f306 3002 (by decide))
        have b317 : 1 ≤ (s304 3002) ∧ (s304 3002) ≤ 64 := hS304 3002
        have e318 : s304 3017 = (s283 3017) := (f306 3017 (by decide))
        have b319 : 0 ≤ (s304 3017) ∧ (s304 3017) ≤ 65535 := hS304 3017
        have e320 : s304 3003 = (s283 3003) := (f306 3003 (by decide))
        have b321 : 1 ≤ (s304 3003) ∧ (s304 3003) ≤ 3 := hS304 3003
        have e322 : s304 3004 = (s283 3004) := (f306 3004 (by decide))
        have b323 : 2 ≤ (s304 3004) ∧ (s304 3004) ≤ 16 := hS304 3004
        have hx324 : zq (ZM (c 32 0) (c 32 1) (c 32 2) (c 32 3) (c 32 4) (s 3004) nn) (s304 3017) (s304 3018) (s304 3019) (s304 3020) (s304 3021) (s304 3022) (s304 3023) (s304 3024) (s304 3025) (s304 3026) := by rw [f306 3017 (by decide), f306 3018 (by decide), f306 3019 (by decide), f306 3020 (by decide), f306 3021 (by decide), f306 3022 (by decide), f306 3023 (by decide), f306 3024 (by decide), f306 3025 (by decide), f306 3026 (by decide)]; exact hx303
        refine tt_k 2 (S' := (280, [some (.inr (.inl 30)), some (.inl nn), some (.inl x234), some (.inl 0)], [], n, D, s304, p, c305)) rfl ?_
        refine x_pack_L280 (Zi := Zi) (D := D) (s := s304) (p := p) (c := c305) hd hS304 hC305 (pMl (f5 (c 32 0) (c 32 1) (c 32 2) (c 32 3) (c 32 4)) 5 0 (wAdd (wAdd (wAdd (wAdd (wAdd (pFr (s 3003).toNat 0 (wAdd (wAdd (wAdd (wAdd (wAdd (wAdd (wAdd (wAdd (wAdd (wAdd (wAdd (wAdd W00 255) 216) 255) 247) (mi_shr ((8 + (3 * (s 3003)))) 8)) ((8 + (3 * (s 3003))))) (s 3004)) (mi_shr (s 3002) 8)) (s 3002)) (mi_shr (s 3001) 8)) (s 3001)) (s 3003))) 255) 248) (mi_shr 13 8)) 13) 1))  (show (s304 3016) ≤ 40 by omega) ?_ _ 0 s304 c305 (by omega) hS304 fr_rf hC305 frc_rf (show (s304 3016) = (s304 3016) + 2 * 0 by omega) ⟨_, k309, by rw [show c305 32 = c 32 from ((g307 32 (by decide)).trans ((g286 32 (by decide)).trans ((g265 32 (by decide)).trans ((g215 32 (by decide)).trans ((g192 32 (by decide)).trans ((g171 32 (by decide)).trans ((g150 32 (by decide)).trans ((g129 32 (by decide)).trans ((g108 32 (by decide)).trans ((g87 32 (by decide)).trans (g66 32 (by decide))))))))))))]; rfl⟩ (Nat.lt_succ_self _)
        intro x325 s326 c327 b328 hS326 f329 hC327 g330 i331 i332 hx333
        show tt Zi d 143 (301, [some (.inr (.inl 30)), some (.inl nn), some (.inl x234), some (.inl x325)], [], n, D, s326, p, c327) _
        have hc334 : mv s326 := mv_fr f329 (by decide) hc310
        have e335 : s326 3000 = (s304 3000) := (f329 3000 (by decide))
        have b336 : 0 ≤ (s326 3000) ∧ (s326 3000) ≤ 2 := hS326 3000
        have e337 : s326 3001 = (s304 3001) := (f329 3001 (by decide))
        have b338 : 1 ≤ (s326 3001) ∧ (s326 3001) ≤ 64 := hS326 3001
        have e339 : s326 3002 = (s304 3002) := (f329 3002 (by decide))
        have b340 : 1 ≤ (s326 3002) ∧ (s326 3002) ≤ 64 := hS326 3002
        have e341 : s326 3017 = (s304 3017) := (f329 3017 (by decide))
        have b342 : 0 ≤ (s326 3017) ∧ (s326 3017) ≤ 65535 := hS326 3017
        have e343 : s326 3003 = (s304 3003) := (f329 3003 (by decide))
        have b344 : 1 ≤ (s326 3003) ∧ (s326 3003) ≤ 3 := hS326 3003
        have e345 : s326 3004 = (s304 3004) := (f329 3004 (by decide))
        have b346 : 2 ≤ (s326 3004) ∧ (s326 3004) ≤ 16 := hS326 3004
        have hx347 : zq (ZM (c 32 0) (c 32 1) (c 32 2) (c 32 3) (c 32 4) (s 3004) nn) (s326 3017) (s326 3018) (s326 3019) (s326 3020) (s326 3021) (s326 3022) (s326 3023) (s326 3024) (s326 3025) (s326 3026) := by rw [f329 3017 (by decide), f329 3018 (by decide), f329 3019 (by decide), f329 3020 (by decide), f329 3021 (by decide), f329 3022 (by decide), f329 3023 (by decide), f329 3024 (by decide), f329 3025 (by decide), f329 3026 (by decide)]; exact hx324
        obtain ⟨W9, hw9, hw8⟩ := i332
        rw [show (5 - x325).toNat = 0 by omega, pMl] at hw8
        subst hw8
        have qW : s326 3001 = s 3001 := by omega
        have qH : s326 3002 = s 3002 := by omega
        have qP : s326 3003 = s 3003 := by omega
        have x31 : c327 31 = c 31 := ((g330 31 (by decide)).trans ((g307 31 (by decide)).trans ((g286 31 (by decide)).trans ((g265 31 (by decide)).trans ((g215 31 (by decide)).trans ((g192 31 (by decide)).trans ((g171 31 (by decide)).trans ((g150 31 (by decide)).trans ((g129 31 (by decide)).trans ((g108 31 (by decide)).trans ((g87 31 (by decide)).trans (g66 31 (by decide)))))))))))))
        have hch := i239 (by omega)
        rw [x32] at hch
        have hms : wrb (pMs (c 32 0) (c 32 1) (c 32 2) (c 32 3) (c 32 4) (pFm (s 3001) (s 3002) (s 3003) (s 3004) (pMk W00 216))) (s326 3016) (c327 35) := by unfold pMs; rw [if_neg hch]; exact hw9
        have b348 : 0 ≤ (s326 3016) ∧ (s326 3016) ≤ 65536 := hS326 3016
        have b349 : -2147483648 ≤ (s326 3018) ∧ (s326 3018) ≤ 2147483647 := hS326 3018
        have b350 : -2147483648 ≤ (s326 3019) ∧ (s326 3019) ≤ 2147483647 := hS326 3019
        have b351 : -2147483648 ≤ (s326 3020) ∧ (s326 3020) ≤ 2147483647 := hS326 3020
        have b352 : -2147483648 ≤ (s326 3021) ∧ (s326 3021) ≤ 2147483647 := hS326 3021
        have b353 : 0 ≤ (s326 3022) ∧ (s326 3022) ≤ 65535 := hS326 3022
        have b354 : -2147483648 ≤ (s326 3023) ∧ (s326 3023) ≤ 2147483647 := hS326 3023
        have b355 : -2147483648 ≤ (s326 3024) ∧ (s326 3024) ≤ 2147483647 := hS326 3024
        have b356 : 0 ≤ (s326 3025) ∧ (s326 3025) ≤ 31 := hS326 3025
        have b357 : 0 ≤ (s326 3026) ∧ (s326 3026) ≤ 96 := hS326 3026
        refine tt_mono (x_packC (Zi := Zi) (D := D) (s := s326) (p := p) (c := c327) (by omega) hS326 hC327 (ZM (c 32 0) (c 32 1) (c 32 2) (c 32 3) (c 32 4) (s 3004) nn) E (pMs (c 32 0) (c 32 1) (c 32 2) (c 32 3) (c 32 4) (pFm (s 3001) (s 3002) (s 3003) (s 3004) (pMk W00 216))) (kOr (c 40) (c 41) (c 42) (c 43)) nn x234 x325 (by omega) hc334 (show (s326 3016) ≤ 64 by omega) (by rw [qW, qH, qP, x31]; exact hp0) (by rw [qW, qH, qP]; exact hEB) hx347 hmZ hms (by rw [show c327 40 = c 40 from ((g330 40 (by decide)).trans ((g307 40 (by decide)).trans ((g286 40 (by decide)).trans ((g265 40 (by decide)).trans ((g215 40 (by decide)).trans ((g192 40 (by decide)).trans ((g171 40 (by decide)).trans ((g150 40 (by decide)).trans ((g129 40 (by decide)).trans ((g108 40 (by decide)).trans ((g87 40 (by decide)).trans (g66 40 (by decide))))))))))))), show c327 41 = c 41 from ((g330 41 (by decide)).trans ((g307 41 (by decide)).trans ((g286 41 (by decide)).trans ((g265 41 (by decide)).trans ((g215 41 (by decide)).trans ((g192 41 (by decide)).trans ((g171 41 (by decide)).trans ((g150 41 (by decide)).trans ((g129 41 (by decide)).trans ((g108 41 (by decide)).trans ((g87 41 (by decide)).trans (g66 41 (by decide))))))))))))), show c327 42 = c 42 from ((g330 42 (by decide)).trans ((g307 42 (by decide)).trans ((g286 42 (by decide)).trans ((g265 42 (by decide)).trans ((g215 42 (by decide)).trans ((g192 42 (by decide)).trans ((g171 42 (by decide)).trans ((g150 42 (by decide)).trans ((g129 42 (by decide)).trans ((g108 42 (by decide)).trans ((g87 42 (by decide)).trans (g66 42 (by decide))))))))))))), show c327 43 = c 43 from ((g330 43 (by decide)).trans ((g307 43 (by decide)).trans ((g286 43 (by decide)).trans ((g265 43 (by decide)).trans ((g215 43 (by decide)).trans ((g192 43 (by decide)).trans ((g171 43 (by decide)).trans ((g150 43 (by decide)).trans ((g129 43 (by decide)).trans ((g108 43 (by decide)).trans ((g87 43 (by decide)).trans (g66 43 (by decide)))))))))))))]; exact mrl_of)) ?_
        rintro _ _ ⟨s358, c359, r360, rfl, rfl, hS358, hC359, f361, g362, b363, k364, k365, k366⟩
        have tw := k364
        rw [qW, qH, qP] at tw
        have hcf : s358 3000 = s326 3000 := f361 3000 (by decide)
        have tk := k366
        rw [qW, qH, qP] at tk
        exact ⟨s358, c359, r360, rfl, rfl, hS358, hC359, (fr_tr (fr_tr (fr_tr (fr_tr (fr_tr (fr_tr (fr_tr (fr_tr (fr_tr (fr_tr (fr_tr (fr_tr (fr_tr (fr_us (by decide) (fr_tr (fr_us (by decide) (fr_tr fr_rf f4 (by decide))) f42 (by decide))) f65 (by decide)) f86 (by decide)) f107 (by decide)) f128 (by decide)) f149 (by decide)) f170 (by decide)) f191 (by decide)) f214 (by decide)) f264 (by decide)) f285 (by decide)) f306 (by decide)) f329 (by decide)) f361 (by decide)), (frc_tr (frc_tr (frc_tr (frc_tr (frc_tr (frc_tr (frc_tr (frc_tr (frc_tr (frc_tr (frc_tr (frc_tr (frc_tr frc_rf g66 (by decide)) g87 (by decide)) g108 (by decide)) g129 (by decide)) g150 (by decide)) g171 (by decide)) g192 (by decide)) g215 (by decide)) g265 (by decide)) g286 (by decide)) g307 (by decide)) g330 (by decide)) g362 (by decide)), by omega, Or.inl ⟨by omega, ⟨hVM, hAB⟩, tw, k365, tk⟩⟩
    · show tt Zi d 143 (122, [some (.inr (.inl 30)), some (.inl nn), some (.inl x38), x39], [], n, D, s40, p, c) _
      have hno : ¬ ((VM (c 32 0) (c 32 1) (c 32 2) (c 32 3) (c 32 4) (s 3004) nn) ∧ AB E (s 3001) (s 3002) (s 3003) (zMo (c 32 0) (s 3004))) := by
        intro hh
        by_cases hr0 : r3 = 0
        · exact hset0 hr0 hh.1
        · have hmo : s2 3017 = zMo (c 32 0) (s 3004) := (hset1 hr0).2.1
          have hc := i46 (show j34 = 0 by omega) (show s40 3000 ≠ 0 by omega)
          rw [pW, pH, pM, hmo] at hc
          exact AB_r hp0 (by omega) (by omega) (by rw [← show s2 3003 = s 3003 from f4 3003 (by decide)]; exact hc) hh.2
      refine tt_k 1 (S' := (123, [some (.inr (.inl 30)), some (.inl nn), some (.inl x38), x39], [.inl 0], n, D, s40, p, c)) rfl ?_
      exact tt_rti rfl rfl ⟨s40, c, 0, rfl, rfl, hS40, hC, (fr_tr (fr_us (by decide) (fr_tr fr_rf f4 (by decide))) f42 (by decide)), frc_rf, by omega, Or.inr ⟨by omega, hno, pS, rfl, rfl, rfl, rfl, rfl⟩⟩
  refine tz_eq (x := r3) rfl rfl (by omega) (fun h367 => ?_) (fun h367 => ?_)
  · show tt Zi d 143 (21, [some (.inr (.inl 30)), some (.inl nn), none, none], [.inr (.inl 30)], n, D, s2, p, c) _
    refine tt_k 1 (S' := (22, [some (.inr (.inl 30)), some (.inl nn), none, none], [.inl 1, .inr (.inl 30)], n, D, s2, p, c)) rfl ?_
    exact K35 1  (by omega) (Or.inl ⟨h367, rfl⟩)
  · show tt Zi d 143 (17, [some (.inr (.inl 30)), some (.inl nn), none, none], [.inr (.inl 30)], n, D, s2, p, c) _
    refine tt_k 2 (S' := (22, [some (.inr (.inl 30)), some (.inl nn), none, none], [.inl 0, .inr (.inl 30)], n, D, s2, p, c)) rfl ?_
    exact K35 0  (by omega) (Or.inr (⟨h367, rfl⟩))
