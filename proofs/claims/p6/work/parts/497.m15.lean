/-! the reference packs -/
theorem w_u08 {x : Int} : w_u x 0 8 = 64 * x := by
  have e : w_on 0 8 = 0 := by decide
  unfold w_u
  rw [e]
  omega
def cvk (w most : Int) (f : Nat → Int) (p k : Int) : Prop := ∀ kk : Int, 0 ≤ kk → kk < k → f (4096 * p + 64 * (kk / w) + kk % w).toNat ≤ most
def cvp (w h most : Int) (f : Nat → Int) (p : Int) : Prop := ∀ pp : Int, 0 ≤ pp → pp < p → cvk w most f pp (w * h)
theorem cvk_0 {w most p : Int} {f : Nat → Int} : cvk w most f p 0 := fun kk h1 h2 => absurd h2 (by omega)
theorem cvk_s {w most p k : Int} {f : Nat → Int} (h : cvk w most f p k) (hk : 0 ≤ k) (hv : f (4096 * p + 64 * (k / w) + k % w).toNat ≤ most) : cvk w most f p (k + 1) := by
  intro kk h1 h2
  by_cases e : kk = k
  · subst e; exact hv
  · exact h kk h1 (by omega)
theorem cvp_0 {w h most : Int} {f : Nat → Int} : cvp w h most f 0 := fun kk h1 h2 => absurd h2 (by omega)
theorem cvp_s {w h most p k : Int} {f : Nat → Int} (hp : cvp w h most f p) (hk : cvk w most f p k) (hle : w * h ≤ k) : cvp w h most f (p + 1) := by
  intro pp h1 h2
  by_cases e : pp = p
  · subst e; exact fun kk g1 g2 => hk kk g1 (by omega)
  · exact hp pp h1 (by omega)
theorem cvp_mono {w h most p q : Int} {f : Nat → Int} (hp : cvp w h most f p) (hq : q ≤ p) : cvp w h most f q := fun pp h1 h2 => hp pp h1 (by omega)
theorem cvp_use {w h most p q xx yy : Int} {f : Nat → Int} (hp : cvp w h most f p) (h0 : 0 ≤ q) (hq : q < p) (h1 : 0 ≤ xx) (h2 : xx < w) (h3 : 0 ≤ yy) (h4 : yy < h) : f (4096 * q + 64 * yy + xx).toNat ≤ most := by
  have hw : 0 < w := by omega
  have e0 : 0 ≤ yy * w := Int.mul_nonneg h3 (by omega)
  have e1 : (yy + 1) * w ≤ h * w := Int.mul_le_mul_of_nonneg_right (by omega) (by omega)
  rw [Int.add_mul, Int.one_mul, Int.mul_comm h w] at e1
  have h5 := hp q h0 hq (xx + yy * w) (by omega) (by omega)
  have d1 : (xx + yy * w) / w = yy := by
    rw [Int.add_mul_ediv_right _ _ (by omega), Int.ediv_eq_zero_of_lt h1 h2]
    omega
  have d2 : (xx + yy * w) % w = xx := by
    rw [Int.add_mul_emod_self_right, Int.emod_eq_of_lt h1 h2]
  rw [d1, d2] at h5
  exact h5
set_option maxRecDepth 100000 in
set_option maxHeartbeats 4000000 in
theorem k_packC_L328 {Zi : Nat → Option (Nat × (Nat → Int))} {d n : Nat} {D : Nat → Nat × Nat} {s : Nat → Int} {p : Nat → Nat} {c : Nat → Nat → Int} {o_1 : Option mi_V} {o_2 : Option mi_V} {Q : mi_Rs → mi_H → Prop} (hd : 7 ≤ d) (hS : bS s) (hC : bC D c) (hc_mv : mv s) (hq0 : cvp (s 3037) (s 3038) (s 3017) (c 31) (s 3003)) (hq1 : s 3036 = 1 ∧ s 3050 = 0)
  (hK : ∀ (q : Int) (s0 : Nat → Int) (c0 : Nat → Nat → Int) (b_q : 0 ≤ q ∧ q ≤ 3) (hS0 : bS s0) (hF0 : fr s s0 [3016, 3035, 3039, 3041, 3042, 3043, 3044, 3045, 3046, 3047, 3048]) (hC0 : bC D c0) (hG0 : frc c c0 [35, 36, 37, 38, 39, 40, 41, 42, 43, 44]) (i0 : 262144 * s0 3016 ≤ 16777216 + q * 5680226304), True → tt Zi d 143 (418, [some (.inr (.inl 30)), o_1, o_2, some (.inl q)], [], n, D, s0, p, c0) Q) :
  ∀ (m : Nat) (q : Int) (s0 : Nat → Int) (c0 : Nat → Nat → Int) (b_q : 0 ≤ q ∧ q ≤ 3) (hS0 : bS s0) (hF0 : fr s s0 [3016, 3035, 3039, 3041, 3042, 3043, 3044, 3045, 3046, 3047, 3048]) (hC0 : bC D c0) (hG0 : frc c c0 [35, 36, 37, 38, 39, 40, 41, 42, 43, 44]) (i0 : 262144 * s0 3016 ≤ 16777216 + q * 5680226304), (s 3003 - q).toNat < m → tt Zi d 143 (328, [some (.inr (.inl 30)), o_1, o_2, some (.inl q)], [], n, D, s0, p, c0) Q := by
  intro m
  induction m with
  | zero => intro q s0 c0 b_q hS0 hF0 hC0 hG0 i0 hm; exact absurd hm (by omega)
  | succ m ih =>
    intro q s0 c0 b_q hS0 hF0 hC0 hG0 i0 hm
    have e1 : s0 3036 = s 3036 := hF0 3036 (by decide)
    have b2 : 0 ≤ (s0 3036) ∧ (s0 3036) ≤ 1 := hS0 3036
    have b3 : 0 ≤ (s 3036) ∧ (s 3036) ≤ 1 := hS 3036
    have e4 : s0 3050 = s 3050 := hF0 3050 (by decide)
    have b5 : 0 ≤ (s0 3050) ∧ (s0 3050) ≤ 8 := hS0 3050
    have b6 : 0 ≤ (s 3050) ∧ (s 3050) ≤ 8 := hS 3050
    have e7 : s0 3003 = s 3003 := hF0 3003 (by decide)
    have b8 : 1 ≤ (s0 3003) ∧ (s0 3003) ≤ 3 := hS0 3003
    have b9 : 1 ≤ (s 3003) ∧ (s 3003) ≤ 3 := hS 3003
    have e10 : s0 3062 = s 3062 := hF0 3062 (by decide)
    have b11 : 0 ≤ (s0 3062) ∧ (s0 3062) ≤ 8 := hS0 3062
    have b12 : 0 ≤ (s 3062) ∧ (s 3062) ≤ 8 := hS 3062
    have hc0_mv : mv s0 := mv_fr hF0 (by decide) hc_mv
    refine tt_k 3 (S' := (333, [some (.inr (.inl 30)), o_1, o_2, some (.inl q)], [.inl (s0 3003), .inl q], n, D, s0, p, c0)) rfl ?_
    refine tb_ge (x := q) (y := (s0 3003)) rfl rfl (by omega) (fun h13 => ?_) (fun h13 => ?_)
    · show tt Zi d 143 (418, [some (.inr (.inl 30)), o_1, o_2, some (.inl q)], [], n, D, s0, p, c0) _
      exact hK q s0 c0 (by omega) hS0 hF0 hC0 hG0 (show 262144 * (s0 3016) ≤ 16777216 + q * 5680226304 by omega) trivial
    · show tt Zi d 143 (336, [some (.inr (.inl 30)), o_1, o_2, some (.inl q)], [], n, D, s0, p, c0) _
      refine tt_k 2 (S' := (340, [some (.inr (.inl 30)), o_1, o_2, some (.inl q)], [.inl 218, .inr (.inl 30)], n, D, s0, p, c0)) rfl ?_
      have b14 : 0 ≤ (s0 3016) ∧ (s0 3016) ≤ 65536 := hS0 3016
      refine tt_cl (by omega) rfl (k_mark (Zi := Zi) (D := D) (s := s0) (p := p) (c := c0) (by omega) hS0 hC0 218 (by omega) (show (s0 3016) ≤ 65534 by omega)) ?_
      rintro _ _ ⟨s15, c16, rfl, rfl, hS15, hC16, f17, g18, k19⟩
      have hc20 : mv s15 := mv_fr f17 (by decide) hc0_mv
      show tt Zi d 143 (343, [some (.inr (.inl 30)), o_1, o_2, some (.inl q)], [], n, D, s15, p, c16) _
      replace k19 : (s15 3016) = (s0 3016) + 2 := k19
      have b21 : 0 ≤ (s15 3016) ∧ (s15 3016) ≤ 65536 := hS15 3016
      have e22 : s15 3036 = (s0 3036) := (f17 3036 (by decide))
      have b23 : 0 ≤ (s15 3036) ∧ (s15 3036) ≤ 1 := hS15 3036
      have e24 : s15 3050 = (s0 3050) := (f17 3050 (by decide))
      have b25 : 0 ≤ (s15 3050) ∧ (s15 3050) ≤ 8 := hS15 3050
      have e26 : s15 3003 = (s0 3003) := (f17 3003 (by decide))
      have b27 : 1 ≤ (s15 3003) ∧ (s15 3003) ≤ 3 := hS15 3003
      have e28 : s15 3062 = (s0 3062) := (f17 3062 (by decide))
      have b29 : 0 ≤ (s15 3062) ∧ (s15 3062) ≤ 8 := hS15 3062
      refine tt_k 2 (S' := (346, [some (.inr (.inl 30)), o_1, o_2, some (.inl q)], [.inl 8, .inr (.inl 30)], n, D, s15, p, c16)) rfl ?_
      refine tt_cl (by omega) rfl (k_two (Zi := Zi) (D := D) (s := s15) (p := p) (c := c16) (by omega) hS15 hC16 8 (by omega) (show (s15 3016) ≤ 65534 by omega)) ?_
      rintro _ _ ⟨s30, c31, rfl, rfl, hS30, hC31, f32, g33, k34⟩
      have hc35 : mv s30 := mv_fr f32 (by decide) hc20
      show tt Zi d 143 (349, [some (.inr (.inl 30)), o_1, o_2, some (.inl q)], [], n, D, s30, p, c31) _
      replace k34 : (s30 3016) = (s15 3016) + 2 := k34
      have b36 : 0 ≤ (s30 3016) ∧ (s30 3016) ≤ 65536 := hS30 3016
      have e37 : s30 3036 = (s15 3036) := (f32 3036 (by decide))
      have b38 : 0 ≤ (s30 3036) ∧ (s30 3036) ≤ 1 := hS30 3036
      have e39 : s30 3050 = (s15 3050) := (f32 3050 (by decide))
      have b40 : 0 ≤ (s30 3050) ∧ (s30 3050) ≤ 8 := hS30 3050
      have e41 : s30 3003 = (s15 3003) := (f32 3003 (by decide))
      have b42 : 1 ≤ (s30 3003) ∧ (s30 3003) ≤ 3 := hS30 3003
      have e43 : s30 3062 = (s15 3062) := (f32 3062 (by decide))
      have b44 : 0 ≤ (s30 3062) ∧ (s30 3062) ≤ 8 := hS30 3062
      refine tt_k 2 (S' := (351, [some (.inr (.inl 30)), o_1, o_2, some (.inl q)], [.inl 1, .inr (.inl 30)], n, D, s30, p, c31)) rfl ?_
      refine tt_cl (by omega) rfl (k_add (Zi := Zi) (D := D) (s := s30) (p := p) (c := c31) (by omega) hS30 hC31 1 (by omega) (show (s30 3016) ≤ 65535 by omega)) ?_
      rintro _ _ ⟨s45, c46, rfl, rfl, hS45, hC46, f47, g48, k49, k50⟩
      have hc51 : mv s45 := mv_fr f47 (by decide) hc35
      show tt Zi d 143 (354, [some (.inr (.inl 30)), o_1, o_2, some (.inl q)], [], n, D, s45, p, c46) _
      replace k49 : (s45 3016) = (s30 3016) + 1 := k49
      replace k50 : (c46 35) = ua ((c31 35)) ((s30 3016)).toNat (mi_nb (mi_i2b 1)) := k50
      have b52 : 0 ≤ (s45 3016) ∧ (s45 3016) ≤ 65536 := hS45 3016
      have e53 : s45 3036 = (s30 3036) := (f47 3036 (by decide))
      have b54 : 0 ≤ (s45 3036) ∧ (s45 3036) ≤ 1 := hS45 3036
      have e55 : s45 3050 = (s30 3050) := (f47 3050 (by decide))
      have b56 : 0 ≤ (s45 3050) ∧ (s45 3050) ≤ 8 := hS45 3050
      have e57 : s45 3003 = (s30 3003) := (f47 3003 (by decide))
      have b58 : 1 ≤ (s45 3003) ∧ (s45 3003) ≤ 3 := hS45 3003
      have e59 : s45 3062 = (s30 3062) := (f47 3062 (by decide))
      have b60 : 0 ≤ (s45 3062) ∧ (s45 3062) ≤ 8 := hS45 3062
      refine tt_k 4 (S' := (358, [some (.inr (.inl 30)), o_1, o_2, some (.inl q)], [.inl (q + 1), .inr (.inl 30)], n, D, s45, p, c46)) rfl ?_
      refine tt_cl (by omega) rfl (k_add (Zi := Zi) (D := D) (s := s45) (p := p) (c := c46) (by omega) hS45 hC46 (q + 1) (by omega) (show (s45 3016) ≤ 65535 by omega)) ?_
      rintro _ _ ⟨s61, c62, rfl, rfl, hS61, hC62, f63, g64, k65, k66⟩
      have hc67 : mv s61 := mv_fr f63 (by decide) hc51
      show tt Zi d 143 (361, [some (.inr (.inl 30)), o_1, o_2, some (.inl q)], [], n, D, s61, p, c62) _
      replace k65 : (s61 3016) = (s45 3016) + 1 := k65
      replace k66 : (c62 35) = ua ((c46 35)) ((s45 3016)).toNat (mi_nb (mi_i2b (q + 1))) := k66
      have b68 : 0 ≤ (s61 3016) ∧ (s61 3016) ≤ 65536 := hS61 3016
      have e69 : s61 3036 = (s45 3036) := (f63 3036 (by decide))
      have b70 : 0 ≤ (s61 3036) ∧ (s61 3036) ≤ 1 := hS61 3036
      have e71 : s61 3050 = (s45 3050) := (f63 3050 (by decide))
      have b72 : 0 ≤ (s61 3050) ∧ (s61 3050) ≤ 8 := hS61 3050
      have e73 : s61 3003 = (s45 3003) := (f63 3003 (by decide))
      have b74 : 1 ≤ (s61 3003) ∧ (s61 3003) ≤ 3 := hS61 3003
      have e75 : s61 3062 = (s45 3062) := (f63 3062 (by decide))
      have b76 : 0 ≤ (s61 3062) ∧ (s61 3062) ≤ 8 := hS61 3062
      refine tt_k 2 (S' := (363, [some (.inr (.inl 30)), o_1, o_2, some (.inl q)], [.inl 0, .inr (.inl 30)], n, D, s61, p, c62)) rfl ?_
      refine tt_cl (by omega) rfl (k_add (Zi := Zi) (D := D) (s := s61) (p := p) (c := c62) (by omega) hS61 hC62 0 (by omega) (show (s61 3016) ≤ 65535 by omega)) ?_
      rintro _ _ ⟨s77, c78, rfl, rfl, hS77, hC78, f79, g80, k81, k82⟩
      have hc83 : mv s77 := mv_fr f79 (by decide) hc67
      show tt Zi d 143 (366, [some (.inr (.inl 30)), o_1, o_2, some (.inl q)], [], n, D, s77, p, c78) _
      replace k81 : (s77 3016) = (s61 3016) + 1 := k81
      replace k82 : (c78 35) = ua ((c62 35)) ((s61 3016)).toNat (mi_nb (mi_i2b 0)) := k82
      have b84 : 0 ≤ (s77 3016) ∧ (s77 3016) ≤ 65536 := hS77 3016
      have e85 : s77 3036 = (s61 3036) := (f79 3036 (by decide))
      have b86 : 0 ≤ (s77 3036) ∧ (s77 3036) ≤ 1 := hS77 3036
      have e87 : s77 3050 = (s61 3050) := (f79 3050 (by decide))
      have b88 : 0 ≤ (s77 3050) ∧ (s77 3050) ≤ 8 := hS77 3050
      have e89 : s77 3003 = (s61 3003) := (f79 3003 (by decide))
      have b90 : 1 ≤ (s77 3003) ∧ (s77 3003) ≤ 3 := hS77 3003
      have e91 : s77 3062 = (s61 3062) := (f79 3062 (by decide))
      have b92 : 0 ≤ (s77 3062) ∧ (s77 3062) ≤ 8 := hS77 3062
      refine tt_k 3 (S' := (371, [some (.inr (.inl 30)), o_1, o_2, some (.inl q)], [.inl (s77 3018), .inr (.inl 30)], n, D, s77, p, c78)) rfl ?_
      have b93 : -2147483648 ≤ (s77 3018) ∧ (s77 3018) ≤ 2147483647 := hS77 3018
      refine tt_cl (by omega) rfl (k_add (Zi := Zi) (D := D) (s := s77) (p := p) (c := c78) (by omega) hS77 hC78 (s77 3018) (by omega) (show (s77 3016) ≤ 65535 by omega)) ?_
      rintro _ _ ⟨s94, c95, rfl, rfl, hS94, hC95, f96, g97, k98, k99⟩
      have hc100 : mv s94 := mv_fr f96 (by decide) hc83
      show tt Zi d 143 (374, [some (.inr (.inl 30)), o_1, o_2, some (.inl q)], [], n, D, s94, p, c95) _
      replace k98 : (s94 3016) = (s77 3016) + 1 := k98
      replace k99 : (c95 35) = ua ((c78 35)) ((s77 3016)).toNat (mi_nb (mi_i2b (s77 3018))) := k99
      have b101 : 0 ≤ (s94 3016) ∧ (s94 3016) ≤ 65536 := hS94 3016
      have e102 : s94 3036 = (s77 3036) := (f96 3036 (by decide))
      have b103 : 0 ≤ (s94 3036) ∧ (s94 3036) ≤ 1 := hS94 3036
      have e104 : s94 3050 = (s77 3050) := (f96 3050 (by decide))
      have b105 : 0 ≤ (s94 3050) ∧ (s94 3050) ≤ 8 := hS94 3050
      have e106 : s94 3003 = (s77 3003) := (f96 3003 (by decide))
      have b107 : 1 ≤ (s94 3003) ∧ (s94 3003) ≤ 3 := hS94 3003
      have e108 : s94 3062 = (s77 3062) := (f96 3062 (by decide))
      have b109 : 0 ≤ (s94 3062) ∧ (s94 3062) ≤ 8 := hS94 3062
      refine tt_k 2 (S' := (376, [some (.inr (.inl 30)), o_1, o_2, some (.inl q)], [.inl 0, .inr (.inl 30)], n, D, s94, p, c95)) rfl ?_
      refine tt_cl (by omega) rfl (k_add (Zi := Zi) (D := D) (s := s94) (p := p) (c := c95) (by omega) hS94 hC95 0 (by omega) (show (s94 3016) ≤ 65535 by omega)) ?_
      rintro _ _ ⟨s110, c111, rfl, rfl, hS110, hC111, f112, g113, k114, k115⟩
      have hc116 : mv s110 := mv_fr f112 (by decide) hc100
      show tt Zi d 143 (379, [some (.inr (.inl 30)), o_1, o_2, some (.inl q)], [], n, D, s110, p, c111) _
      replace k114 : (s110 3016) = (s94 3016) + 1 := k114
      replace k115 : (c111 35) = ua ((c95 35)) ((s94 3016)).toNat (mi_nb (mi_i2b 0)) := k115
      have b117 : 0 ≤ (s110 3016) ∧ (s110 3016) ≤ 65536 := hS110 3016
      have e118 : s110 3036 = (s94 3036) := (f112 3036 (by decide))
      have b119 : 0 ≤ (s110 3036) ∧ (s110 3036) ≤ 1 := hS110 3036
      have e120 : s110 3050 = (s94 3050) := (f112 3050 (by decide))
      have b121 : 0 ≤ (s110 3050) ∧ (s110 3050) ≤ 8 := hS110 3050
      have e122 : s110 3003 = (s94 3003) := (f112 3003 (by decide))
      have b123 : 1 ≤ (s110 3003) ∧ (s110 3003) ≤ 3 := hS110 3003
      have e124 : s110 3062 = (s94 3062) := (f112 3062 (by decide))
      have b125 : 0 ≤ (s110 3062) ∧ (s110 3062) ≤ 8 := hS110 3062
      refine tt_k 2 (S' := (381, [some (.inr (.inl 30)), o_1, o_2, some (.inl q)], [.inl 0, .inr (.inl 30)], n, D, s110, p, c111)) rfl ?_
      refine tt_cl (by omega) rfl (k_add (Zi := Zi) (D := D) (s := s110) (p := p) (c := c111) (by omega) hS110 hC111 0 (by omega) (show (s110 3016) ≤ 65535 by omega)) ?_
      rintro _ _ ⟨s126, c127, rfl, rfl, hS126, hC127, f128, g129, k130, k131⟩
      have hc132 : mv s126 := mv_fr f128 (by decide) hc116
      show tt Zi d 143 (384, [some (.inr (.inl 30)), o_1, o_2, some (.inl q)], [], n, D, s126, p, c127) _
      replace k130 : (s126 3016) = (s110 3016) + 1 := k130
      replace k131 : (c127 35) = ua ((c111 35)) ((s110 3016)).toNat (mi_nb (mi_i2b 0)) := k131
      have b133 : 0 ≤ (s126 3016) ∧ (s126 3016) ≤ 65536 := hS126 3016
      have e134 : s126 3036 = (s110 3036) := (f128 3036 (by decide))
      have b135 : 0 ≤ (s126 3036) ∧ (s126 3036) ≤ 1 := hS126 3036
      have e136 : s126 3050 = (s110 3050) := (f128 3050 (by decide))
      have b137 : 0 ≤ (s126 3050) ∧ (s126 3050) ≤ 8 := hS126 3050
      have e138 : s126 3003 = (s110 3003) := (f128 3003 (by decide))
      have b139 : 1 ≤ (s126 3003) ∧ (s126 3003) ≤ 3 := hS126 3003
      have e140 : s126 3062 = (s110 3062) := (f128 3062 (by decide))
      have b141 : 0 ≤ (s126 3062) ∧ (s126 3062) ≤ 8 := hS126 3062
      refine tt_k 12 (S' := (405, [some (.inr (.inl 30)), o_1, o_2, some (.inl q)], [.inr (.inl 30)], n, D, (us (us (us s126 3039 (4096 * q)) 3047 0) 3048 8), p, c127)) rfl ?_
      have xW : s126 3037 = s 3037 := ((f128 3037 (by decide)).trans ((f112 3037 (by decide)).trans ((f96 3037 (by decide)).trans ((f79 3037 (by decide)).trans ((f63 3037 (by decide)).trans ((f47 3037 (by decide)).trans ((f32 3037 (by decide)).trans ((f17 3037 (by decide)).trans (hF0 3037 (by decide))))))))))
      have xH : s126 3038 = s 3038 := ((f128 3038 (by decide)).trans ((f112 3038 (by decide)).trans ((f96 3038 (by decide)).trans ((f79 3038 (by decide)).trans ((f63 3038 (by decide)).trans ((f47 3038 (by decide)).trans ((f32 3038 (by decide)).trans ((f17 3038 (by decide)).trans (hF0 3038 (by decide))))))))))
      have xM : s126 3017 = s 3017 := ((f128 3017 (by decide)).trans ((f112 3017 (by decide)).trans ((f96 3017 (by decide)).trans ((f79 3017 (by decide)).trans ((f63 3017 (by decide)).trans ((f47 3017 (by decide)).trans ((f32 3017 (by decide)).trans ((f17 3017 (by decide)).trans (hF0 3017 (by decide))))))))))
      have x31 : c127 31 = c 31 := ((g129 31 (by decide)).trans ((g113 31 (by decide)).trans ((g97 31 (by decide)).trans ((g80 31 (by decide)).trans ((g64 31 (by decide)).trans ((g48 31 (by decide)).trans ((g33 31 (by decide)).trans ((g18 31 (by decide)).trans (hG0 31 (by decide))))))))))
      have hcvs : ∀ xx yy : Int, 0 ≤ xx → xx < s126 3037 → 0 ≤ yy → yy < s126 3038 → c127 31 (4096 * q + 64 * yy + xx).toNat ≤ s126 3017 := by rw [xW, xH, xM, x31]; exact fun xx yy h1 h2 h3 h4 => cvp_use hq0 (by omega) (by omega) h1 h2 h3 h4
      have hwu := w_u08 (x := (s126 3016))
      have b142 : 0 ≤ (s126 3037) ∧ (s126 3037) ≤ 64 := hS126 3037
      have b143 : 0 ≤ (s126 3038) ∧ (s126 3038) ≤ 64 := hS126 3038
      have b144 : 0 ≤ (s126 3017) ∧ (s126 3017) ≤ 65535 := hS126 3017
      refine tt_cl (by omega) rfl (k_planeT (Zi := Zi) (D := D) (s := (us (us (us s126 3039 (4096 * q)) 3047 0) 3048 8)) (p := p) (c := c127) (by omega) (bS_us (bS_us (bS_us hS126 (show 0 ≤ (4096 * q) ∧ (4096 * q) ≤ 8192 by omega)) (show 0 ≤ 0 ∧ 0 ≤ 255 by omega)) (show 0 ≤ 8 ∧ 8 ≤ 8 by omega)) hC127 (mv_us (by decide) (mv_us (by decide) (mv_us (by decide) hc132))) (show (s126 3036) = 1 ∧ (s126 3050) = 0 by omega) hcvs (w_ok0 (Or.inr rfl)) (show 4096 * w_u ((s126 3016)) (0) (8) + 5676785664 ≤ 17179869184 by omega)) ?_
      rintro _ _ ⟨s145, c146, rfl, rfl, hS145, hC146, f147, g148, k149, k150, k151⟩
      have hc152 : mv s145 := mv_fr f147 (by decide) (mv_us (by decide) (mv_us (by decide) (mv_us (by decide) hc132)))
      show tt Zi d 143 (408, [some (.inr (.inl 30)), o_1, o_2, some (.inl q)], [], n, D, s145, p, c146) _
      replace k149 : w_ok ((s145 3047)) ((s145 3048)) := k149
      replace k150 : 4096 * w_u ((s145 3016)) ((s145 3047)) ((s145 3048)) ≤ 4096 * w_u ((s126 3016)) (0) (8) + 5676785664 := k150
      replace k151 : (s126 3016) ≤ (s145 3016) := k151
      have b153 : 0 ≤ (s145 3047) ∧ (s145 3047) ≤ 255 := hS145 3047
      have b154 : 0 ≤ (s145 3048) ∧ (s145 3048) ≤ 8 := hS145 3048
      have b155 : 0 ≤ (s145 3016) ∧ (s145 3016) ≤ 65536 := hS145 3016
      have e156 : s145 3036 = (s126 3036) := (f147 3036 (by decide))
      have b157 : 0 ≤ (s145 3036) ∧ (s145 3036) ≤ 1 := hS145 3036
      have e158 : s145 3050 = (s126 3050) := (f147 3050 (by decide))
      have b159 : 0 ≤ (s145 3050) ∧ (s145 3050) ≤ 8 := hS145 3050
      have e160 : s145 3003 = (s126 3003) := (f147 3003 (by decide))
      have b161 : 1 ≤ (s145 3003) ∧ (s145 3003) ≤ 3 := hS145 3003
      have e162 : s145 3062 = (s126 3062) := (f147 3062 (by decide))
      have b163 : 0 ≤ (s145 3062) ∧ (s145 3062) ≤ 8 := hS145 3062
      refine tt_k 1 (S' := (409, [some (.inr (.inl 30)), o_1, o_2, some (.inl q)], [.inr (.inl 30)], n, D, s145, p, c146)) rfl ?_
      refine tt_cl (by omega) rfl (k_flush (Zi := Zi) (D := D) (s := s145) (p := p) (c := c146) (by omega) hS145 hC146 k149 (show w_u ((s145 3016)) ((s145 3047)) ((s145 3048)) ≤ 4194304 - 200 by omega) (show 1 ≤ (s145 3016) by omega)) ?_
      rintro _ _ ⟨s164, c165, rfl, rfl, hS164, hC165, f166, g167, k168, k169⟩
      have hc170 : mv s164 := mv_fr f166 (by decide) hc152
      show tt Zi d 143 (412, [some (.inr (.inl 30)), o_1, o_2, some (.inl q)], [], n, D, s164, p, c165) _
      replace k168 : 64 * (s164 3016) ≤ w_u ((s145 3016)) ((s145 3047)) ((s145 3048)) + 200 := k168
      replace k169 : (s145 3016) ≤ (s164 3016) := k169
      have b171 : 0 ≤ (s164 3016) ∧ (s164 3016) ≤ 65536 := hS164 3016
      have e172 : s164 3036 = (s145 3036) := (f166 3036 (by decide))
      have b173 : 0 ≤ (s164 3036) ∧ (s164 3036) ≤ 1 := hS164 3036
      have e174 : s164 3050 = (s145 3050) := (f166 3050 (by decide))
      have b175 : 0 ≤ (s164 3050) ∧ (s164 3050) ≤ 8 := hS164 3050
      have e176 : s164 3003 = (s145 3003) := (f166 3003 (by decide))
      have b177 : 1 ≤ (s164 3003) ∧ (s164 3003) ≤ 3 := hS164 3003
      have e178 : s164 3062 = (s145 3062) := (f166 3062 (by decide))
      have b179 : 0 ≤ (s164 3062) ∧ (s164 3062) ≤ 8 := hS164 3062
      refine tt_k 2 (S' := (328, [some (.inr (.inl 30)), o_1, o_2, some (.inl (q + 1))], [], n, D, s164, p, c165)) rfl ?_
      exact ih (q + 1) s164 c165 (by omega) hS164 (fr_tr (fr_tr (fr_us (by decide) (fr_us (by decide) (fr_us (by decide) (fr_tr (fr_tr (fr_tr (fr_tr (fr_tr (fr_tr (fr_tr (fr_tr hF0 f17 (by decide)) f32 (by decide)) f47 (by decide)) f63 (by decide)) f79 (by decide)) f96 (by decide)) f112 (by decide)) f128 (by decide))))) f147 (by decide)) f166 (by decide)) hC165 (frc_tr (frc_tr (frc_tr (frc_tr (frc_tr (frc_tr (frc_tr (frc_tr (frc_tr (frc_tr hG0 g18 (by decide)) g33 (by decide)) g48 (by decide)) g64 (by decide)) g80 (by decide)) g97 (by decide)) g113 (by decide)) g129 (by decide)) g148 (by decide)) g167 (by decide)) (show 262144 * (s164 3016) ≤ 16777216 + (q + 1) * 5680226304 by omega) (show (s 3003 - (q + 1)).toNat < m by omega)
set_option maxRecDepth 100000 in
set_option maxHeartbeats 4000000 in
theorem k_packC {Zi : Nat → Option (Nat × (Nat → Int))} {d n : Nat} {D : Nat → Nat × Nat} {s : Nat → Int} {p : Nat → Nat} {c : Nat → Nat → Int} (hd : 7 ≤ d) (hS : bS s) (hC : bC D c) (nn : Int) (l2 : Int) (l3 : Int) (b_nn : -2147483648 ≤ nn ∧ nn ≤ 2147483647) (hp0 : mv s) (hp1 : s 3016 ≤ 64) (hp2 : cvp (s 3001) (s 3002) (s 3017) (c 31) (s 3003)) : tt Zi d 143 (301, [some (.inr (.inl 30)), some (.inl nn), some (.inl l2), some (.inl l3)], [], n, D, s, p, c) (fun R H => ∃ (s' : Nat → Int) (c' : Nat → Nat → Int) (r : Int), R = .inl (some (.inl r)) ∧ H = (n, D, s', p, c') ∧ bS s' ∧ bC D c' ∧ fr s s' [3016, 3035, 3036, 3037, 3038, 3039, 3041, 3042, 3043, 3044, 3045, 3046, 3047, 3048, 3050, 3062] ∧ frc c c' [35, 36, 37, 38, 39, 40, 41, 42, 43, 44] ∧ (0 ≤ r ∧ r ≤ 65536)) := by
  refine tt_k 12 (S' := (323, [some (.inr (.inl 30)), some (.inl nn), some (.inl l2), some (.inl l3)], [.inr (.inl 30)], n, D, (us (us (us s 3036 1) 3037 (s 3001)) 3038 (s 3002)), p, c)) rfl ?_
  have b1 : 1 ≤ (s 3001) ∧ (s 3001) ≤ 64 := hS 3001
  have b2 : 1 ≤ (s 3002) ∧ (s 3002) ≤ 64 := hS 3002
  refine tt_cl (by omega) rfl (k_fault0 (Zi := Zi) (D := D) (s := (us (us (us s 3036 1) 3037 (s 3001)) 3038 (s 3002))) (p := p) (c := c) (by omega) (bS_us (bS_us (bS_us hS (show 0 ≤ 1 ∧ 1 ≤ 1 by omega)) (show 0 ≤ (s 3001) ∧ (s 3001) ≤ 64 by omega)) (show 0 ≤ (s 3002) ∧ (s 3002) ≤ 64 by omega)) hC ) ?_
  rintro _ _ ⟨s3, rfl, rfl, hS3, f4, k5⟩
  have hc6 : mv s3 := mv_fr f4 (by decide) (mv_us (by decide) (mv_us (by decide) (mv_us (by decide) hp0)))
  show tt Zi d 143 (326, [some (.inr (.inl 30)), some (.inl nn), some (.inl l2), some (.inl l3)], [], n, D, s3, p, c) _
  replace k5 : (s3 3050) = 0 := k5
  have b7 : 0 ≤ (s3 3050) ∧ (s3 3050) ≤ 8 := hS3 3050
  have e8 : s3 3036 = 1 := (f4 3036 (by decide))
  have b9 : 0 ≤ (s3 3036) ∧ (s3 3036) ≤ 1 := hS3 3036
  have e10 : s3 3016 = (s 3016) := (f4 3016 (by decide))
  have b11 : 0 ≤ (s3 3016) ∧ (s3 3016) ≤ 65536 := hS3 3016
  have b12 : 0 ≤ (s 3016) ∧ (s 3016) ≤ 65536 := hS 3016
  have e13 : s3 3003 = (s 3003) := (f4 3003 (by decide))
  have b14 : 1 ≤ (s3 3003) ∧ (s3 3003) ≤ 3 := hS3 3003
  have b15 : 1 ≤ (s 3003) ∧ (s 3003) ≤ 3 := hS 3003
  refine tt_k 2 (S' := (328, [some (.inr (.inl 30)), some (.inl nn), some (.inl l2), some (.inl 0)], [], n, D, s3, p, c)) rfl ?_
  have b16 : 0 ≤ (s3 3037) ∧ (s3 3037) ≤ 64 := hS3 3037
  have b17 : 0 ≤ (s3 3038) ∧ (s3 3038) ≤ 64 := hS3 3038
  have b18 : 0 ≤ (s3 3017) ∧ (s3 3017) ≤ 65535 := hS3 3017
  refine k_packC_L328 (Zi := Zi) (D := D) (s := s3) (p := p) (c := c) hd hS3 hC   hc6 (by rw [show s3 3037 = s 3001 from f4 3037 (by decide), show s3 3038 = s 3002 from f4 3038 (by decide), show s3 3017 = s 3017 from f4 3017 (by decide), show s3 3003 = s 3003 from f4 3003 (by decide)]; exact hp2) (show (s3 3036) = 1 ∧ (s3 3050) = 0 by omega) ?_ _ 0 s3 c (by omega) hS3 fr_rf hC frc_rf (show 262144 * (s3 3016) ≤ 16777216 + 0 * 5680226304 by omega) (Nat.lt_succ_self _)
  intro x19 s20 c21 b22 hS20 f23 hC21 g24 i25 hx26
  show tt Zi d 143 (418, [some (.inr (.inl 30)), some (.inl nn), some (.inl l2), some (.inl x19)], [], n, D, s20, p, c21) _
  replace i25 : 262144 * (s20 3016) ≤ 16777216 + x19 * 5680226304 := i25
  have hc27 : mv s20 := mv_fr f23 (by decide) hc6
  have e28 : s20 3036 = (s3 3036) := (f23 3036 (by decide))
  have b29 : 0 ≤ (s20 3036) ∧ (s20 3036) ≤ 1 := hS20 3036
  have e30 : s20 3050 = (s3 3050) := (f23 3050 (by decide))
  have b31 : 0 ≤ (s20 3050) ∧ (s20 3050) ≤ 8 := hS20 3050
  have e32 : s20 3003 = (s3 3003) := (f23 3003 (by decide))
  have b33 : 1 ≤ (s20 3003) ∧ (s20 3003) ≤ 3 := hS20 3003
  have e34 : s20 3062 = (s3 3062) := (f23 3062 (by decide))
  have b35 : 0 ≤ (s20 3062) ∧ (s20 3062) ≤ 8 := hS20 3062
  have b36 : 0 ≤ (s3 3062) ∧ (s3 3062) ≤ 8 := hS3 3062
  refine tt_k 2 (S' := (422, [some (.inr (.inl 30)), some (.inl nn), some (.inl l2), some (.inl x19)], [.inl 217, .inr (.inl 30)], n, D, s20, p, c21)) rfl ?_
  have b37 : 0 ≤ (s20 3016) ∧ (s20 3016) ≤ 65536 := hS20 3016
  refine tt_cl (by omega) rfl (k_mark (Zi := Zi) (D := D) (s := s20) (p := p) (c := c21) (by omega) hS20 hC21 217 (by omega) (show (s20 3016) ≤ 65534 by omega)) ?_
  rintro _ _ ⟨s38, c39, rfl, rfl, hS38, hC39, f40, g41, k42⟩
  have hc43 : mv s38 := mv_fr f40 (by decide) hc27
  show tt Zi d 143 (425, [some (.inr (.inl 30)), some (.inl nn), some (.inl l2), some (.inl x19)], [], n, D, s38, p, c39) _
  replace k42 : (s38 3016) = (s20 3016) + 2 := k42
  have b44 : 0 ≤ (s38 3016) ∧ (s38 3016) ≤ 65536 := hS38 3016
  have e45 : s38 3036 = (s20 3036) := (f40 3036 (by decide))
  have b46 : 0 ≤ (s38 3036) ∧ (s38 3036) ≤ 1 := hS38 3036
  have e47 : s38 3050 = (s20 3050) := (f40 3050 (by decide))
  have b48 : 0 ≤ (s38 3050) ∧ (s38 3050) ≤ 8 := hS38 3050
  have e49 : s38 3003 = (s20 3003) := (f40 3003 (by decide))
  have b50 : 1 ≤ (s38 3003) ∧ (s38 3003) ≤ 3 := hS38 3003
  have e51 : s38 3062 = (s20 3062) := (f40 3062 (by decide))
  have b52 : 0 ≤ (s38 3062) ∧ (s38 3062) ≤ 8 := hS38 3062
  refine tt_k 6 (S' := (437, [some (.inr (.inl 30)), some (.inl nn), some (.inl l2), some (.inl x19)], [.inl (s38 3016)], n, D, (us s38 3050 (s38 3062)), p, c39)) rfl ?_
  exact tt_rti rfl rfl ⟨(us s38 3050 (s38 3062)), c39, (s38 3016), rfl, rfl, (bS_us hS38 (show 0 ≤ (s38 3062) ∧ (s38 3062) ≤ 8 by omega)), hC39, (fr_us (by decide) (fr_tr (fr_tr (fr_tr (fr_us (by decide) (fr_us (by decide) (fr_us (by decide) fr_rf))) f4 (by decide)) f23 (by decide)) f40 (by decide))), (frc_tr (frc_tr frc_rf g24 (by decide)) g41 (by decide)), by omega⟩
set_option maxRecDepth 100000 in
set_option maxHeartbeats 4000000 in
theorem k_pack_L44 {Zi : Nat → Option (Nat × (Nat → Int))} {d n : Nat} {D : Nat → Nat × Nat} {s : Nat → Int} {p : Nat → Nat} {c : Nat → Nat → Int} {o_1 : Option mi_V} {Q : mi_Rs → mi_H → Prop} (hd : 7 ≤ d) (hS : bS s) (hC : bC D c) (p_ : Int) (b_p_ : 0 ≤ p_ ∧ p_ ≤ 2)
  (hK : ∀ (k_ : Int) (s0 : Nat → Int) (b_k_ : 0 ≤ k_ ∧ k_ ≤ 4096) (hS0 : bS s0) (hF0 : fr s s0 [3000]) (i0 : s 3000 ≠ 0 → s0 3000 ≠ 0) (i1 : s0 3000 = 0 → cvk (s0 3001) (s0 3017) (c 31) p_ k_) (i2 : k_ ≤ s 3001 * s 3002), s 3001 * s 3002 ≤ k_ → tt Zi d 143 (109, [some (.inr (.inl 30)), o_1, some (.inl p_), some (.inl k_)], [], n, D, s0, p, c) Q) :
  ∀ (m : Nat) (k_ : Int) (s0 : Nat → Int) (b_k_ : 0 ≤ k_ ∧ k_ ≤ 4096) (hS0 : bS s0) (hF0 : fr s s0 [3000]) (i0 : s 3000 ≠ 0 → s0 3000 ≠ 0) (i1 : s0 3000 = 0 → cvk (s0 3001) (s0 3017) (c 31) p_ k_) (i2 : k_ ≤ s 3001 * s 3002), (s 3001 * s 3002 - k_).toNat < m → tt Zi d 143 (44, [some (.inr (.inl 30)), o_1, some (.inl p_), some (.inl k_)], [], n, D, s0, p, c) Q := by
  intro m
  induction m with
  | zero => intro k_ s0 b_k_ hS0 hF0 i0 i1 i2 hm; exact absurd hm (by omega)
  | succ m ih =>
    intro k_ s0 b_k_ hS0 hF0 i0 i1 i2 hm
    have e1 : s0 3001 = s 3001 := hF0 3001 (by decide)
    have b2 : 1 ≤ (s0 3001) ∧ (s0 3001) ≤ 64 := hS0 3001
    have b3 : 1 ≤ (s 3001) ∧ (s 3001) ≤ 64 := hS 3001
    have e4 : s0 3002 = s 3002 := hF0 3002 (by decide)
    have b5 : 1 ≤ (s0 3002) ∧ (s0 3002) ≤ 64 := hS0 3002
    have b6 : 1 ≤ (s 3002) ∧ (s 3002) ≤ 64 := hS 3002
    have e7 : s0 3017 = s 3017 := hF0 3017 (by decide)
    have b8 : 0 ≤ (s0 3017) ∧ (s0 3017) ≤ 65535 := hS0 3017
    have b9 : 0 ≤ (s 3017) ∧ (s 3017) ≤ 65535 := hS 3017
    have e10 : s0 3003 = s 3003 := hF0 3003 (by decide)
    have b11 : 1 ≤ (s0 3003) ∧ (s0 3003) ≤ 3 := hS0 3003
    have b12 : 1 ≤ (s 3003) ∧ (s 3003) ≤ 3 := hS 3003
    have hmu := mul_bd (e := s 3001) (st := s 3002) (a := 64) (b := 64) (by omega) (by omega) (by omega) (by omega) (by omega)
    have hme : s0 3001 * s0 3002 = s 3001 * s 3002 := by rw [hF0 3001 (by decide), hF0 3002 (by decide)]
    refine tt_k 6 (S' := (54, [some (.inr (.inl 30)), o_1, some (.inl p_), some (.inl k_)], [.inl ((s0 3001) * (s0 3002)), .inl k_], n, D, s0, p, c)) rfl ?_
    have m13 := mul_bd (e := (s0 3001)) (st := (s0 3002)) (a := 64) (b := 64) (by omega) (by omega) (by omega) (by omega) (by omega)
    refine tb_ge (x := k_) (y := ((s0 3001) * (s0 3002))) rfl rfl (by omega) (fun h14 => ?_) (fun h14 => ?_)
    · show tt Zi d 143 (109, [some (.inr (.inl 30)), o_1, some (.inl p_), some (.inl k_)], [], n, D, s0, p, c) _
      exact hK k_ s0 (by omega) hS0 hF0 i0 i1 i2 (by omega)
    · show tt Zi d 143 (57, [some (.inr (.inl 30)), o_1, some (.inl p_), some (.inl k_)], [], n, D, s0, p, c) _
      refine tt_k 10 (S' := (74, [some (.inr (.inl 30)), o_1, some (.inl p_), some (.inl k_)], [.inl (s0 3001), .inl k_, .inl 64, .inl (4096 * p_), .inr (.inl 31), .inr (.inl 30)], n, D, s0, p, c)) rfl ?_
      refine tt_dvp (x := k_) (y := (s0 3001)) rfl (by omega) ?_
      show tt Zi d 143 (75, [some (.inr (.inl 30)), o_1, some (.inl p_), some (.inl k_)], [.inl (k_ / (s0 3001)), .inl 64, .inl (4096 * p_), .inr (.inl 31), .inr (.inl 30)], n, D, s0, p, c) _
      have b15 : 0 ≤ (k_ / (s0 3001)) ∧ (k_ / (s0 3001)) ≤ k_ := td_le (by omega) (by omega)
      have b16 : (k_ / (s0 3001)) < s0 3002 := Int.ediv_lt_of_lt_mul (by omega) (by rw [Int.mul_comm]; omega)
      refine tt_k 5 (S' := (82, [some (.inr (.inl 30)), o_1, some (.inl p_), some (.inl k_)], [.inl (s0 3001), .inl k_, .inl (((4096 * p_) + (64 * (k_ / (s0 3001))))), .inr (.inl 31), .inr (.inl 30)], n, D, s0, p, c)) rfl ?_
      refine tt_rmp (x := k_) (y := (s0 3001)) rfl (by omega) ?_
      show tt Zi d 143 (83, [some (.inr (.inl 30)), o_1, some (.inl p_), some (.inl k_)], [.inl (k_ % (s0 3001)), .inl (((4096 * p_) + (64 * (k_ / (s0 3001))))), .inr (.inl 31), .inr (.inl 30)], n, D, s0, p, c) _
      have b17 : 0 ≤ (k_ % (s0 3001)) := Int.emod_nonneg _ (by omega)
      have b18 : (k_ % (s0 3001)) < (s0 3001) := Int.emod_lt_of_pos _ (by omega)
      refine tt_k 1 (S' := (84, [some (.inr (.inl 30)), o_1, some (.inl p_), some (.inl k_)], [.inl ((((4096 * p_) + (64 * (k_ / (s0 3001)))) + (k_ % (s0 3001)))), .inr (.inl 31), .inr (.inl 30)], n, D, s0, p, c)) rfl ?_
      refine tt_ildv (i := (((4096 * p_) + (64 * (k_ / (s0 3001)))) + (k_ % (s0 3001)))) (v := (c 31 ((((4096 * p_) + (64 * (k_ / (s0 3001)))) + (k_ % (s0 3001)))).toNat)) rfl rfl (by omega) rfl ?_
      show tt Zi d 143 (85, [some (.inr (.inl 30)), o_1, some (.inl p_), some (.inl k_)], [.inl ((c 31 ((((4096 * p_) + (64 * (k_ / (s0 3001)))) + (k_ % (s0 3001)))).toNat)), .inr (.inl 30)], n, D, s0, p, c) _
      have b19 : 0 ≤ (c 31 ((((4096 * p_) + (64 * (k_ / (s0 3001)))) + (k_ % (s0 3001)))).toNat) ∧ (c 31 ((((4096 * p_) + (64 * (k_ / (s0 3001)))) + (k_ % (s0 3001)))).toNat) ≤ 65535 := hC 31 _
      refine tt_k 2 (S' := (89, [some (.inr (.inl 30)), o_1, some (.inl p_), some (.inl k_)], [.inl (s0 3017), .inl ((c 31 ((((4096 * p_) + (64 * (k_ / (s0 3001)))) + (k_ % (s0 3001)))).toNat)), .inr (.inl 30)], n, D, s0, p, c)) rfl ?_
      have K21 : ∀ (j20 : Int) , (0 ≤ j20 ∧ j20 ≤ 2) → (((c 31 ((((4096 * p_) + (64 * (k_ / (s0 3001)))) + (k_ % (s0 3001)))).toNat) ≤ (s0 3017) ∧ j20 = (s0 3000)) ∨ ((s0 3017) < (c 31 ((((4096 * p_) + (64 * (k_ / (s0 3001)))) + (k_ % (s0 3001)))).toNat) ∧ j20 = 1)) → tt Zi d 143 (100, [some (.inr (.inl 30)), o_1, some (.inl p_), some (.inl k_)], [.inl j20, .inr (.inl 30)], n, D, s0, p, c) Q := by
        intro j20 b23 hj22
        have b24 : 0 ≤ (s0 3000) ∧ (s0 3000) ≤ 2 := hS0 3000
        refine tt_k 3 (S' := (44, [some (.inr (.inl 30)), o_1, some (.inl p_), some (.inl (k_ + 1))], [], n, D, (us s0 3000 j20), p, c)) rfl ?_
        exact ih (k_ + 1) (us s0 3000 j20) (by omega) (bS_us hS0 (show 0 ≤ j20 ∧ j20 ≤ 2 by omega)) (fr_us (by decide) hF0) (show s 3000 ≠ 0 → j20 ≠ 0 by omega) (fun hz => cvk_s (i1 (by have hz : j20 = 0 := hz; omega)) (by omega) (show c 31 (4096 * p_ + 64 * (k_ / s0 3001) + k_ % s0 3001).toNat ≤ s0 3017 by have hz : j20 = 0 := hz; omega)) (show (k_ + 1) ≤ s 3001 * s 3002 by omega) (show (s 3001 * s 3002 - (k_ + 1)).toNat < m by omega)
      refine tb_le (x := (c 31 ((((4096 * p_) + (64 * (k_ / (s0 3001)))) + (k_ % (s0 3001)))).toNat)) (y := (s0 3017)) rfl rfl (by omega) (fun h25 => ?_) (fun h25 => ?_)
      · show tt Zi d 143 (96, [some (.inr (.inl 30)), o_1, some (.inl p_), some (.inl k_)], [.inr (.inl 30)], n, D, s0, p, c) _
        refine tt_k 2 (S' := (100, [some (.inr (.inl 30)), o_1, some (.inl p_), some (.inl k_)], [.inl (s0 3000), .inr (.inl 30)], n, D, s0, p, c)) rfl ?_
        have b26 : 0 ≤ (s0 3000) ∧ (s0 3000) ≤ 2 := hS0 3000
        exact K21 (s0 3000)  (by omega) (Or.inl ⟨h25, rfl⟩)
      · show tt Zi d 143 (92, [some (.inr (.inl 30)), o_1, some (.inl p_), some (.inl k_)], [.inr (.inl 30)], n, D, s0, p, c) _
        refine tt_k 2 (S' := (100, [some (.inr (.inl 30)), o_1, some (.inl p_), some (.inl k_)], [.inl 1, .inr (.inl 30)], n, D, s0, p, c)) rfl ?_
        exact K21 1  (by omega) (Or.inr (⟨h25, rfl⟩))

set_option maxRecDepth 100000 in
set_option maxHeartbeats 4000000 in
theorem k_pack_L27 {Zi : Nat → Option (Nat × (Nat → Int))} {d n : Nat} {D : Nat → Nat × Nat} {s : Nat → Int} {p : Nat → Nat} {c : Nat → Nat → Int} {o_1 : Option mi_V} {Q : mi_Rs → mi_H → Prop} (hd : 7 ≤ d) (hS : bS s) (hC : bC D c) 
  (hK : ∀ (p_ : Int) (o_3 : Option mi_V) (s0 : Nat → Int) (b_p_ : 0 ≤ p_ ∧ p_ ≤ 3) (hS0 : bS s0) (hF0 : fr s s0 [3000]) (i0 : s 3000 ≠ 0 → s0 3000 ≠ 0) (i1 : s0 3000 = 0 → cvp (s0 3001) (s0 3002) (s0 3017) (c 31) p_) (i2 : p_ ≤ s 3003), s0 3000 ≠ 0 ∨ s 3003 ≤ p_ → tt Zi d 143 (115, [some (.inr (.inl 30)), o_1, some (.inl p_), o_3], [], n, D, s0, p, c) Q) :
  ∀ (m : Nat) (p_ : Int) (o_3 : Option mi_V) (s0 : Nat → Int) (b_p_ : 0 ≤ p_ ∧ p_ ≤ 3) (hS0 : bS s0) (hF0 : fr s s0 [3000]) (i0 : s 3000 ≠ 0 → s0 3000 ≠ 0) (i1 : s0 3000 = 0 → cvp (s0 3001) (s0 3002) (s0 3017) (c 31) p_) (i2 : p_ ≤ s 3003), (s 3003 - p_).toNat < m → tt Zi d 143 (27, [some (.inr (.inl 30)), o_1, some (.inl p_), o_3], [], n, D, s0, p, c) Q := by
  intro m
  induction m with
  | zero => intro p_ o_3 s0 b_p_ hS0 hF0 i0 i1 i2 hm; exact absurd hm (by omega)
  | succ m ih =>
    intro p_ o_3 s0 b_p_ hS0 hF0 i0 i1 i2 hm
    have e1 : s0 3001 = s 3001 := hF0 3001 (by decide)
    have b2 : 1 ≤ (s0 3001) ∧ (s0 3001) ≤ 64 := hS0 3001
    have b3 : 1 ≤ (s 3001) ∧ (s 3001) ≤ 64 := hS 3001
    have e4 : s0 3002 = s 3002 := hF0 3002 (by decide)
    have b5 : 1 ≤ (s0 3002) ∧ (s0 3002) ≤ 64 := hS0 3002
    have b6 : 1 ≤ (s 3002) ∧ (s 3002) ≤ 64 := hS 3002
    have e7 : s0 3017 = s 3017 := hF0 3017 (by decide)
    have b8 : 0 ≤ (s0 3017) ∧ (s0 3017) ≤ 65535 := hS0 3017
    have b9 : 0 ≤ (s 3017) ∧ (s 3017) ≤ 65535 := hS 3017
    have e10 : s0 3003 = s 3003 := hF0 3003 (by decide)
    have b11 : 1 ≤ (s0 3003) ∧ (s0 3003) ≤ 3 := hS0 3003
    have b12 : 1 ≤ (s 3003) ∧ (s 3003) ≤ 3 := hS 3003
    refine tt_k 3 (S' := (32, [some (.inr (.inl 30)), o_1, some (.inl p_), o_3], [.inl (s0 3003), .inl p_], n, D, s0, p, c)) rfl ?_
    refine tb_ge (x := p_) (y := (s0 3003)) rfl rfl (by omega) (fun h13 => ?_) (fun h13 => ?_)
    · show tt Zi d 143 (115, [some (.inr (.inl 30)), o_1, some (.inl p_), o_3], [], n, D, s0, p, c) _
      exact hK p_ (o_3) s0 (by omega) hS0 hF0 i0 i1 i2 (by omega)
    · show tt Zi d 143 (35, [some (.inr (.inl 30)), o_1, some (.inl p_), o_3], [], n, D, s0, p, c) _
      refine tt_k 2 (S' := (39, [some (.inr (.inl 30)), o_1, some (.inl p_), o_3], [.inl (s0 3000)], n, D, s0, p, c)) rfl ?_
      have b14 : 0 ≤ (s0 3000) ∧ (s0 3000) ≤ 2 := hS0 3000
      refine tz_ne (x := (s0 3000)) rfl rfl (by omega) (fun h15 => ?_) (fun h15 => ?_)
      · show tt Zi d 143 (115, [some (.inr (.inl 30)), o_1, some (.inl p_), o_3], [], n, D, s0, p, c) _
        exact hK p_ (o_3) s0 (by omega) hS0 hF0 i0 i1 i2 (by omega)
      · show tt Zi d 143 (42, [some (.inr (.inl 30)), o_1, some (.inl p_), o_3], [], n, D, s0, p, c) _
        refine tt_k 2 (S' := (44, [some (.inr (.inl 30)), o_1, some (.inl p_), some (.inl 0)], [], n, D, s0, p, c)) rfl ?_
        have hm0 : 0 ≤ s0 3001 * s0 3002 := Int.mul_nonneg (by omega) (by omega)
        refine k_pack_L44 (Zi := Zi) (D := D) (s := s0) (p := p) (c := c) hd hS0 hC  p_ (by omega) ?_ _ 0 s0 (by omega) hS0 fr_rf (fun h => h) (fun _ => cvk_0) (show 0 ≤ (s0 3001) * (s0 3002) by omega) (Nat.lt_succ_self _)
        intro x16 s17 b18 hS17 f19 i20 i21 i22 hx23
        show tt Zi d 143 (109, [some (.inr (.inl 30)), o_1, some (.inl p_), some (.inl x16)], [], n, D, s17, p, c) _
        replace i20 : (s0 3000) ≠ 0 → (s17 3000) ≠ 0 := i20
        replace i21 : (s17 3000) = 0 → cvk ((s17 3001)) ((s17 3017)) ((c 31)) p_ x16 := i21
        replace i22 : x16 ≤ (s0 3001) * (s0 3002) := i22
        replace hx23 : (s0 3001) * (s0 3002) ≤ x16 := hx23
        have e24 : s17 3001 = (s0 3001) := (f19 3001 (by decide))
        have b25 : 1 ≤ (s17 3001) ∧ (s17 3001) ≤ 64 := hS17 3001
        have e26 : s17 3002 = (s0 3002) := (f19 3002 (by decide))
        have b27 : 1 ≤ (s17 3002) ∧ (s17 3002) ≤ 64 := hS17 3002
        have e28 : s17 3017 = (s0 3017) := (f19 3017 (by decide))
        have b29 : 0 ≤ (s17 3017) ∧ (s17 3017) ≤ 65535 := hS17 3017
        have e30 : s17 3003 = (s0 3003) := (f19 3003 (by decide))
        have b31 : 1 ≤ (s17 3003) ∧ (s17 3003) ≤ 3 := hS17 3003
        refine tt_k 2 (S' := (27, [some (.inr (.inl 30)), o_1, some (.inl (p_ + 1)), some (.inl x16)], [], n, D, s17, p, c)) rfl ?_
        have aW : s17 3001 = s0 3001 := f19 3001 (by decide)
        have aH : s17 3002 = s0 3002 := f19 3002 (by decide)
        have aM : s17 3017 = s0 3017 := f19 3017 (by decide)
        exact ih (p_ + 1) (some (.inl x16)) s17 (by omega) hS17 (fr_tr hF0 f19 (by decide)) (show s 3000 ≠ 0 → (s17 3000) ≠ 0 by omega) (fun hz => cvp_s (by rw [aW, aH, aM]; exact i1 (by omega)) (i21 hz) (by rw [aW, aH]; exact hx23)) (show (p_ + 1) ≤ s 3003 by omega) (show (s 3003 - (p_ + 1)).toNat < m by omega)

set_option maxRecDepth 100000 in
set_option maxHeartbeats 4000000 in
theorem k_pack_L190 {Zi : Nat → Option (Nat × (Nat → Int))} {d n : Nat} {D : Nat → Nat × Nat} {s : Nat → Int} {p : Nat → Nat} {c : Nat → Nat → Int} {o_1 : Option mi_V} {o_3 : Option mi_V} {Q : mi_Rs → mi_H → Prop} (hd : 7 ≤ d) (hS : bS s) (hC : bC D c) (hq0 : s 3016 ≤ 20)
  (hK : ∀ (q : Int) (s0 : Nat → Int) (c0 : Nat → Nat → Int) (b_q : 0 ≤ q ∧ q ≤ 3) (hS0 : bS s0) (hF0 : fr s s0 [3016]) (hC0 : bC D c0) (hG0 : frc c c0 [35]) (i0 : s0 3016 = s 3016 + 3 * q) (i1 : q ≤ s 3003), True → tt Zi d 143 (222, [some (.inr (.inl 30)), o_1, some (.inl q), o_3], [], n, D, s0, p, c0) Q) :
  ∀ (m : Nat) (q : Int) (s0 : Nat → Int) (c0 : Nat → Nat → Int) (b_q : 0 ≤ q ∧ q ≤ 3) (hS0 : bS s0) (hF0 : fr s s0 [3016]) (hC0 : bC D c0) (hG0 : frc c c0 [35]) (i0 : s0 3016 = s 3016 + 3 * q) (i1 : q ≤ s 3003), (s 3003 - q).toNat < m → tt Zi d 143 (190, [some (.inr (.inl 30)), o_1, some (.inl q), o_3], [], n, D, s0, p, c0) Q := by
  intro m
  induction m with
  | zero => intro q s0 c0 b_q hS0 hF0 hC0 hG0 i0 i1 hm; exact absurd hm (by omega)
  | succ m ih =>
    intro q s0 c0 b_q hS0 hF0 hC0 hG0 i0 i1 hm
    have e1 : s0 3000 = s 3000 := hF0 3000 (by decide)
    have b2 : 0 ≤ (s0 3000) ∧ (s0 3000) ≤ 2 := hS0 3000
    have b3 : 0 ≤ (s 3000) ∧ (s 3000) ≤ 2 := hS 3000
    have e4 : s0 3001 = s 3001 := hF0 3001 (by decide)
    have b5 : 1 ≤ (s0 3001) ∧ (s0 3001) ≤ 64 := hS0 3001
    have b6 : 1 ≤ (s 3001) ∧ (s 3001) ≤ 64 := hS 3001
    have e7 : s0 3002 = s 3002 := hF0 3002 (by decide)
    have b8 : 1 ≤ (s0 3002) ∧ (s0 3002) ≤ 64 := hS0 3002
    have b9 : 1 ≤ (s 3002) ∧ (s 3002) ≤ 64 := hS 3002
    have e10 : s0 3017 = s 3017 := hF0 3017 (by decide)
    have b11 : 0 ≤ (s0 3017) ∧ (s0 3017) ≤ 65535 := hS0 3017
    have b12 : 0 ≤ (s 3017) ∧ (s 3017) ≤ 65535 := hS 3017
    have e13 : s0 3003 = s 3003 := hF0 3003 (by decide)
    have b14 : 1 ≤ (s0 3003) ∧ (s0 3003) ≤ 3 := hS0 3003
    have b15 : 1 ≤ (s 3003) ∧ (s 3003) ≤ 3 := hS 3003
    refine tt_k 3 (S' := (195, [some (.inr (.inl 30)), o_1, some (.inl q), o_3], [.inl (s0 3003), .inl q], n, D, s0, p, c0)) rfl ?_
    refine tb_ge (x := q) (y := (s0 3003)) rfl rfl (by omega) (fun h16 => ?_) (fun h16 => ?_)
    · show tt Zi d 143 (222, [some (.inr (.inl 30)), o_1, some (.inl q), o_3], [], n, D, s0, p, c0) _
      exact hK q s0 c0 (by omega) hS0 hF0 hC0 hG0 (show (s0 3016) = s 3016 + 3 * q by omega) (show q ≤ s 3003 by omega) trivial
    · show tt Zi d 143 (198, [some (.inr (.inl 30)), o_1, some (.inl q), o_3], [], n, D, s0, p, c0) _
      refine tt_k 4 (S' := (202, [some (.inr (.inl 30)), o_1, some (.inl q), o_3], [.inl (q + 1), .inr (.inl 30)], n, D, s0, p, c0)) rfl ?_
      have b17 : 0 ≤ (s0 3016) ∧ (s0 3016) ≤ 65536 := hS0 3016
      refine tt_cl (by omega) rfl (k_add (Zi := Zi) (D := D) (s := s0) (p := p) (c := c0) (by omega) hS0 hC0 (q + 1) (by omega) (show (s0 3016) ≤ 65535 by omega)) ?_
      rintro _ _ ⟨s18, c19, rfl, rfl, hS18, hC19, f20, g21, k22, k23⟩
      show tt Zi d 143 (205, [some (.inr (.inl 30)), o_1, some (.inl q), o_3], [], n, D, s18, p, c19) _
      replace k22 : (s18 3016) = (s0 3016) + 1 := k22
      replace k23 : (c19 35) = ua ((c0 35)) ((s0 3016)).toNat (mi_nb (mi_i2b (q + 1))) := k23
      have b24 : 0 ≤ (s18 3016) ∧ (s18 3016) ≤ 65536 := hS18 3016
      have e25 : s18 3000 = (s0 3000) := (f20 3000 (by decide))
      have b26 : 0 ≤ (s18 3000) ∧ (s18 3000) ≤ 2 := hS18 3000
      have e27 : s18 3001 = (s0 3001) := (f20 3001 (by decide))
      have b28 : 1 ≤ (s18 3001) ∧ (s18 3001) ≤ 64 := hS18 3001
      have e29 : s18 3002 = (s0 3002) := (f20 3002 (by decide))
      have b30 : 1 ≤ (s18 3002) ∧ (s18 3002) ≤ 64 := hS18 3002
      have e31 : s18 3017 = (s0 3017) := (f20 3017 (by decide))
      have b32 : 0 ≤ (s18 3017) ∧ (s18 3017) ≤ 65535 := hS18 3017
      have e33 : s18 3003 = (s0 3003) := (f20 3003 (by decide))
      have b34 : 1 ≤ (s18 3003) ∧ (s18 3003) ≤ 3 := hS18 3003
      refine tt_k 2 (S' := (208, [some (.inr (.inl 30)), o_1, some (.inl q), o_3], [.inl 17, .inr (.inl 30)], n, D, s18, p, c19)) rfl ?_
      refine tt_cl (by omega) rfl (k_add (Zi := Zi) (D := D) (s := s18) (p := p) (c := c19) (by omega) hS18 hC19 17 (by omega) (show (s18 3016) ≤ 65535 by omega)) ?_
      rintro _ _ ⟨s35, c36, rfl, rfl, hS35, hC36, f37, g38, k39, k40⟩
      show tt Zi d 143 (211, [some (.inr (.inl 30)), o_1, some (.inl q), o_3], [], n, D, s35, p, c36) _
      replace k39 : (s35 3016) = (s18 3016) + 1 := k39
      replace k40 : (c36 35) = ua ((c19 35)) ((s18 3016)).toNat (mi_nb (mi_i2b 17)) := k40
      have b41 : 0 ≤ (s35 3016) ∧ (s35 3016) ≤ 65536 := hS35 3016
      have e42 : s35 3000 = (s18 3000) := (f37 3000 (by decide))
      have b43 : 0 ≤ (s35 3000) ∧ (s35 3000) ≤ 2 := hS35 3000
      have e44 : s35 3001 = (s18 3001) := (f37 3001 (by decide))
      have b45 : 1 ≤ (s35 3001) ∧ (s35 3001) ≤ 64 := hS35 3001
      have e46 : s35 3002 = (s18 3002) := (f37 3002 (by decide))
      have b47 : 1 ≤ (s35 3002) ∧ (s35 3002) ≤ 64 := hS35 3002
      have e48 : s35 3017 = (s18 3017) := (f37 3017 (by decide))
      have b49 : 0 ≤ (s35 3017) ∧ (s35 3017) ≤ 65535 := hS35 3017
      have e50 : s35 3003 = (s18 3003) := (f37 3003 (by decide))
      have b51 : 1 ≤ (s35 3003) ∧ (s35 3003) ≤ 3 := hS35 3003
      refine tt_k 2 (S' := (213, [some (.inr (.inl 30)), o_1, some (.inl q), o_3], [.inl 0, .inr (.inl 30)], n, D, s35, p, c36)) rfl ?_
      refine tt_cl (by omega) rfl (k_add (Zi := Zi) (D := D) (s := s35) (p := p) (c := c36) (by omega) hS35 hC36 0 (by omega) (show (s35 3016) ≤ 65535 by omega)) ?_
      rintro _ _ ⟨s52, c53, rfl, rfl, hS52, hC53, f54, g55, k56, k57⟩
      show tt Zi d 143 (216, [some (.inr (.inl 30)), o_1, some (.inl q), o_3], [], n, D, s52, p, c53) _
      replace k56 : (s52 3016) = (s35 3016) + 1 := k56
      replace k57 : (c53 35) = ua ((c36 35)) ((s35 3016)).toNat (mi_nb (mi_i2b 0)) := k57
      have b58 : 0 ≤ (s52 3016) ∧ (s52 3016) ≤ 65536 := hS52 3016
      have e59 : s52 3000 = (s35 3000) := (f54 3000 (by decide))
      have b60 : 0 ≤ (s52 3000) ∧ (s52 3000) ≤ 2 := hS52 3000
      have e61 : s52 3001 = (s35 3001) := (f54 3001 (by decide))
      have b62 : 1 ≤ (s52 3001) ∧ (s52 3001) ≤ 64 := hS52 3001
      have e63 : s52 3002 = (s35 3002) := (f54 3002 (by decide))
      have b64 : 1 ≤ (s52 3002) ∧ (s52 3002) ≤ 64 := hS52 3002
      have e65 : s52 3017 = (s35 3017) := (f54 3017 (by decide))
      have b66 : 0 ≤ (s52 3017) ∧ (s52 3017) ≤ 65535 := hS52 3017
      have e67 : s52 3003 = (s35 3003) := (f54 3003 (by decide))
      have b68 : 1 ≤ (s52 3003) ∧ (s52 3003) ≤ 3 := hS52 3003
      refine tt_k 2 (S' := (190, [some (.inr (.inl 30)), o_1, some (.inl (q + 1)), o_3], [], n, D, s52, p, c53)) rfl ?_
      exact ih (q + 1) s52 c53 (by omega) hS52 (fr_tr (fr_tr (fr_tr hF0 f20 (by decide)) f37 (by decide)) f54 (by decide)) hC53 (frc_tr (frc_tr (frc_tr hG0 g21 (by decide)) g38 (by decide)) g55 (by decide)) (show (s52 3016) = s 3016 + 3 * (q + 1) by omega) (show (q + 1) ≤ s 3003 by omega) (show (s 3003 - (q + 1)).toNat < m by omega)

set_option maxRecDepth 100000 in
set_option maxHeartbeats 4000000 in
theorem k_pack_L226 {Zi : Nat → Option (Nat × (Nat → Int))} {d n : Nat} {D : Nat → Nat × Nat} {s : Nat → Int} {p : Nat → Nat} {c : Nat → Nat → Int} {o_1 : Option mi_V} {Q : mi_Rs → mi_H → Prop} (hd : 7 ≤ d) (hS : bS s) (hC : bC D c) 
  (hK : ∀ (so : Int) (k_ : Int) (b_so : 0 ≤ so ∧ so ≤ 1) (b_k_ : 0 ≤ k_ ∧ k_ ≤ 5), True → tt Zi d 143 (256, [some (.inr (.inl 30)), o_1, some (.inl so), some (.inl k_)], [], n, D, s, p, c) Q) :
  ∀ (m : Nat) (so : Int) (k_ : Int) (b_so : 0 ≤ so ∧ so ≤ 1) (b_k_ : 0 ≤ k_ ∧ k_ ≤ 5), (5 - k_).toNat < m → tt Zi d 143 (226, [some (.inr (.inl 30)), o_1, some (.inl so), some (.inl k_)], [], n, D, s, p, c) Q := by
  intro m
  induction m with
  | zero => intro so k_ b_so b_k_ hm; exact absurd hm (by omega)
  | succ m ih =>
    intro so k_ b_so b_k_ hm
    refine tt_k 2 (S' := (228, [some (.inr (.inl 30)), o_1, some (.inl so), some (.inl k_)], [.inl 5, .inl k_], n, D, s, p, c)) rfl ?_
    refine tb_ge (x := k_) (y := 5) rfl rfl (by omega) (fun h1 => ?_) (fun h1 => ?_)
    · show tt Zi d 143 (256, [some (.inr (.inl 30)), o_1, some (.inl so), some (.inl k_)], [], n, D, s, p, c) _
      exact hK so k_ (by omega) (by omega) trivial
    · show tt Zi d 143 (231, [some (.inr (.inl 30)), o_1, some (.inl so), some (.inl k_)], [], n, D, s, p, c) _
      refine tt_k 1 (S' := (232, [some (.inr (.inl 30)), o_1, some (.inl so), some (.inl k_)], [.inl so], n, D, s, p, c)) rfl ?_
      have K3 : ∀ (j2 : Int) , (0 ≤ j2 ∧ j2 ≤ 1) → ((so ≠ 0 ∧ j2 = 1) ∨ (so = 0 ∧ (c 32 (k_).toNat) = 0 ∧ j2 = 0) ∨ (so = 0 ∧ (c 32 (k_).toNat) ≠ 0 ∧ j2 = 1)) → tt Zi d 143 (249, [some (.inr (.inl 30)), o_1, some (.inl so), some (.inl k_)], [.inl j2], n, D, s, p, c) Q := by
        intro j2 b5 hj4
        refine tt_k 3 (S' := (226, [some (.inr (.inl 30)), o_1, some (.inl j2), some (.inl (k_ + 1))], [], n, D, s, p, c)) rfl ?_
        exact ih j2 (k_ + 1)  (by omega) (by omega) (show (5 - (k_ + 1)).toNat < m by omega)
      refine tz_ne (x := so) rfl rfl (by omega) (fun h6 => ?_) (fun h6 => ?_)
      · show tt Zi d 143 (244, [some (.inr (.inl 30)), o_1, some (.inl so), some (.inl k_)], [], n, D, s, p, c) _
        refine tt_k 2 (S' := (249, [some (.inr (.inl 30)), o_1, some (.inl so), some (.inl k_)], [.inl 1], n, D, s, p, c)) rfl ?_
        exact K3 1  (by omega) (Or.inl ⟨h6, rfl⟩)
      · show tt Zi d 143 (235, [some (.inr (.inl 30)), o_1, some (.inl so), some (.inl k_)], [], n, D, s, p, c) _
        refine tt_k 3 (S' := (240, [some (.inr (.inl 30)), o_1, some (.inl so), some (.inl k_)], [.inl k_, .inr (.inl 32)], n, D, s, p, c)) rfl ?_
        refine tt_ildv (i := k_) (v := (c 32 (k_).toNat)) rfl rfl (by omega) rfl ?_
        show tt Zi d 143 (241, [some (.inr (.inl 30)), o_1, some (.inl so), some (.inl k_)], [.inl (c 32 (k_).toNat)], n, D, s, p, c) _
        have b7 : 0 ≤ (c 32 (k_).toNat) ∧ (c 32 (k_).toNat) ≤ 65535 := hC 32 _
        refine tz_eq (x := (c 32 (k_).toNat)) rfl rfl (by omega) (fun h8 => ?_) (fun h8 => ?_)
        · show tt Zi d 143 (248, [some (.inr (.inl 30)), o_1, some (.inl so), some (.inl k_)], [], n, D, s, p, c) _
          refine tt_k 1 (S' := (249, [some (.inr (.inl 30)), o_1, some (.inl so), some (.inl k_)], [.inl 0], n, D, s, p, c)) rfl ?_
          exact K3 0  (by omega) (Or.inr (Or.inl ⟨h6, h8, rfl⟩))
        · show tt Zi d 143 (244, [some (.inr (.inl 30)), o_1, some (.inl so), some (.inl k_)], [], n, D, s, p, c) _
          refine tt_k 2 (S' := (249, [some (.inr (.inl 30)), o_1, some (.inl so), some (.inl k_)], [.inl 1], n, D, s, p, c)) rfl ?_
          exact K3 1  (by omega) (Or.inr (Or.inr (⟨h6, h8, rfl⟩)))

set_option maxRecDepth 100000 in
set_option maxHeartbeats 4000000 in
theorem k_pack_L280 {Zi : Nat → Option (Nat × (Nat → Int))} {d n : Nat} {D : Nat → Nat × Nat} {s : Nat → Int} {p : Nat → Nat} {c : Nat → Nat → Int} {o_1 : Option mi_V} {o_2 : Option mi_V} {Q : mi_Rs → mi_H → Prop} (hd : 7 ≤ d) (hS : bS s) (hC : bC D c) (hq0 : s 3016 ≤ 40)
  (hK : ∀ (k_ : Int) (s0 : Nat → Int) (c0 : Nat → Nat → Int) (b_k_ : 0 ≤ k_ ∧ k_ ≤ 5) (hS0 : bS s0) (hF0 : fr s s0 [3016]) (hC0 : bC D c0) (hG0 : frc c c0 [35]) (i0 : s0 3016 = s 3016 + 2 * k_), True → tt Zi d 143 (301, [some (.inr (.inl 30)), o_1, o_2, some (.inl k_)], [], n, D, s0, p, c0) Q) :
  ∀ (m : Nat) (k_ : Int) (s0 : Nat → Int) (c0 : Nat → Nat → Int) (b_k_ : 0 ≤ k_ ∧ k_ ≤ 5) (hS0 : bS s0) (hF0 : fr s s0 [3016]) (hC0 : bC D c0) (hG0 : frc c c0 [35]) (i0 : s0 3016 = s 3016 + 2 * k_), (5 - k_).toNat < m → tt Zi d 143 (280, [some (.inr (.inl 30)), o_1, o_2, some (.inl k_)], [], n, D, s0, p, c0) Q := by
  intro m
  induction m with
  | zero => intro k_ s0 c0 b_k_ hS0 hF0 hC0 hG0 i0 hm; exact absurd hm (by omega)
  | succ m ih =>
    intro k_ s0 c0 b_k_ hS0 hF0 hC0 hG0 i0 hm
    have e1 : s0 3000 = s 3000 := hF0 3000 (by decide)
    have b2 : 0 ≤ (s0 3000) ∧ (s0 3000) ≤ 2 := hS0 3000
    have b3 : 0 ≤ (s 3000) ∧ (s 3000) ≤ 2 := hS 3000
    have e4 : s0 3001 = s 3001 := hF0 3001 (by decide)
    have b5 : 1 ≤ (s0 3001) ∧ (s0 3001) ≤ 64 := hS0 3001
    have b6 : 1 ≤ (s 3001) ∧ (s 3001) ≤ 64 := hS 3001
    have e7 : s0 3002 = s 3002 := hF0 3002 (by decide)
    have b8 : 1 ≤ (s0 3002) ∧ (s0 3002) ≤ 64 := hS0 3002
    have b9 : 1 ≤ (s 3002) ∧ (s 3002) ≤ 64 := hS 3002
    have e10 : s0 3017 = s 3017 := hF0 3017 (by decide)
    have b11 : 0 ≤ (s0 3017) ∧ (s0 3017) ≤ 65535 := hS0 3017
    have b12 : 0 ≤ (s 3017) ∧ (s 3017) ≤ 65535 := hS 3017
    have e13 : s0 3003 = s 3003 := hF0 3003 (by decide)
    have b14 : 1 ≤ (s0 3003) ∧ (s0 3003) ≤ 3 := hS0 3003
    have b15 : 1 ≤ (s 3003) ∧ (s 3003) ≤ 3 := hS 3003
    refine tt_k 2 (S' := (282, [some (.inr (.inl 30)), o_1, o_2, some (.inl k_)], [.inl 5, .inl k_], n, D, s0, p, c0)) rfl ?_
    refine tb_ge (x := k_) (y := 5) rfl rfl (by omega) (fun h16 => ?_) (fun h16 => ?_)
    · show tt Zi d 143 (301, [some (.inr (.inl 30)), o_1, o_2, some (.inl k_)], [], n, D, s0, p, c0) _
      exact hK k_ s0 c0 (by omega) hS0 hF0 hC0 hG0 (show (s0 3016) = s 3016 + 2 * k_ by omega) trivial
    · show tt Zi d 143 (285, [some (.inr (.inl 30)), o_1, o_2, some (.inl k_)], [], n, D, s0, p, c0) _
      refine tt_k 4 (S' := (291, [some (.inr (.inl 30)), o_1, o_2, some (.inl k_)], [.inl k_, .inr (.inl 32), .inr (.inl 30)], n, D, s0, p, c0)) rfl ?_
      refine tt_ildv (i := k_) (v := (c0 32 (k_).toNat)) rfl rfl (by omega) rfl ?_
      show tt Zi d 143 (292, [some (.inr (.inl 30)), o_1, o_2, some (.inl k_)], [.inl (c0 32 (k_).toNat), .inr (.inl 30)], n, D, s0, p, c0) _
      have b17 : 0 ≤ (c0 32 (k_).toNat) ∧ (c0 32 (k_).toNat) ≤ 65535 := hC0 32 _
      have b18 : 0 ≤ (s0 3016) ∧ (s0 3016) ≤ 65536 := hS0 3016
      refine tt_cl (by omega) rfl (k_two (Zi := Zi) (D := D) (s := s0) (p := p) (c := c0) (by omega) hS0 hC0 (c0 32 (k_).toNat) (by omega) (show (s0 3016) ≤ 65534 by omega)) ?_
      rintro _ _ ⟨s19, c20, rfl, rfl, hS19, hC20, f21, g22, k23⟩
      show tt Zi d 143 (295, [some (.inr (.inl 30)), o_1, o_2, some (.inl k_)], [], n, D, s19, p, c20) _
      replace k23 : (s19 3016) = (s0 3016) + 2 := k23
      have b24 : 0 ≤ (s19 3016) ∧ (s19 3016) ≤ 65536 := hS19 3016
      have e25 : s19 3000 = (s0 3000) := (f21 3000 (by decide))
      have b26 : 0 ≤ (s19 3000) ∧ (s19 3000) ≤ 2 := hS19 3000
      have e27 : s19 3001 = (s0 3001) := (f21 3001 (by decide))
      have b28 : 1 ≤ (s19 3001) ∧ (s19 3001) ≤ 64 := hS19 3001
      have e29 : s19 3002 = (s0 3002) := (f21 3002 (by decide))
      have b30 : 1 ≤ (s19 3002) ∧ (s19 3002) ≤ 64 := hS19 3002
      have e31 : s19 3017 = (s0 3017) := (f21 3017 (by decide))
      have b32 : 0 ≤ (s19 3017) ∧ (s19 3017) ≤ 65535 := hS19 3017
      have e33 : s19 3003 = (s0 3003) := (f21 3003 (by decide))
      have b34 : 1 ≤ (s19 3003) ∧ (s19 3003) ≤ 3 := hS19 3003
      refine tt_k 2 (S' := (280, [some (.inr (.inl 30)), o_1, o_2, some (.inl (k_ + 1))], [], n, D, s19, p, c20)) rfl ?_
      exact ih (k_ + 1) s19 c20 (by omega) hS19 (fr_tr hF0 f21 (by decide)) hC20 (frc_tr hG0 g22 (by decide)) (show (s19 3016) = s 3016 + 2 * (k_ + 1) by omega) (show (5 - (k_ + 1)).toNat < m by omega)
set_option maxRecDepth 100000 in
set_option maxHeartbeats 4000000 in
theorem k_pack {Zi : Nat → Option (Nat × (Nat → Int))} {d n : Nat} {D : Nat → Nat × Nat} {s : Nat → Int} {p : Nat → Nat} {c : Nat → Nat → Int} (hd : 7 ≤ d) (hS : bS s) (hC : bC D c) (nn : Int) (b_nn : -2147483648 ≤ nn ∧ nn ≤ 2147483647) : tt Zi d 143 (0, [some (.inr (.inl 30)), some (.inl nn), none, none], [], n, D, s, p, c) (fun R H => ∃ (s' : Nat → Int) (c' : Nat → Nat → Int) (r : Int), R = .inl (some (.inl r)) ∧ H = (n, D, s', p, c') ∧ bS s' ∧ bC D c' ∧ fr s s' [3000, 3016, 3017, 3018, 3019, 3020, 3021, 3022, 3023, 3024, 3025, 3026, 3035, 3036, 3037, 3038, 3039, 3041, 3042, 3043, 3044, 3045, 3046, 3047, 3048, 3050, 3062] ∧ frc c c' [35, 36, 37, 38, 39, 40, 41, 42, 43, 44] ∧ (0 ≤ r ∧ r ≤ 65536)) := by
  refine tt_k 7 (S' := (11, [some (.inr (.inl 30)), some (.inl nn), none, none], [.inl nn, .inl (s 3004), .inr (.inl 32), .inr (.inl 30), .inr (.inl 30)], n, D, s, p, c)) rfl ?_
  have b1 : 2 ≤ (s 3004) ∧ (s 3004) ≤ 16 := hS 3004
  refine tt_cl (by omega) rfl (k_measP (Zi := Zi) (D := D) (s := s) (p := p) (c := c) (by omega) hS hC (s 3004) nn (by omega) (by omega)) ?_
  rintro _ _ ⟨s2, r3, rfl, rfl, hS2, f4, b5, k6⟩
  show tt Zi d 143 (14, [some (.inr (.inl 30)), some (.inl nn), none, none], [.inl r3, .inr (.inl 30)], n, D, s2, p, c) _
  replace k6 : r3 = 1 → mv s2 := k6
  have e7 : s2 3000 = (s 3000) := (f4 3000 (by decide))
  have b8 : 0 ≤ (s2 3000) ∧ (s2 3000) ≤ 2 := hS2 3000
  have b9 : 0 ≤ (s 3000) ∧ (s 3000) ≤ 2 := hS 3000
  have e10 : s2 3001 = (s 3001) := (f4 3001 (by decide))
  have b11 : 1 ≤ (s2 3001) ∧ (s2 3001) ≤ 64 := hS2 3001
  have b12 : 1 ≤ (s 3001) ∧ (s 3001) ≤ 64 := hS 3001
  have e13 : s2 3002 = (s 3002) := (f4 3002 (by decide))
  have b14 : 1 ≤ (s2 3002) ∧ (s2 3002) ≤ 64 := hS2 3002
  have b15 : 1 ≤ (s 3002) ∧ (s 3002) ≤ 64 := hS 3002
  have e16 : s2 3003 = (s 3003) := (f4 3003 (by decide))
  have b17 : 1 ≤ (s2 3003) ∧ (s2 3003) ≤ 3 := hS2 3003
  have b18 : 1 ≤ (s 3003) ∧ (s 3003) ≤ 3 := hS 3003
  have K20 : ∀ (j19 : Int) , (0 ≤ j19 ∧ j19 ≤ 1) → ((r3 = 0 ∧ j19 = 1) ∨ (r3 ≠ 0 ∧ j19 = 0)) → tt Zi d 143 (22, [some (.inr (.inl 30)), some (.inl nn), none, none], [.inl j19, .inr (.inl 30)], n, D, s2, p, c) (fun R H => ∃ (s' : Nat → Int) (c' : Nat → Nat → Int) (r : Int), R = .inl (some (.inl r)) ∧ H = (n, D, s', p, c') ∧ bS s' ∧ bC D c' ∧ fr s s' [3000, 3016, 3017, 3018, 3019, 3020, 3021, 3022, 3023, 3024, 3025, 3026, 3035, 3036, 3037, 3038, 3039, 3041, 3042, 3043, 3044, 3045, 3046, 3047, 3048, 3050, 3062] ∧ frc c c' [35, 36, 37, 38, 39, 40, 41, 42, 43, 44] ∧ (0 ≤ r ∧ r ≤ 65536)) := by
    intro j19 b22 hj21
    refine tt_k 3 (S' := (27, [some (.inr (.inl 30)), some (.inl nn), some (.inl 0), none], [], n, D, (us s2 3000 j19), p, c)) rfl ?_
    refine k_pack_L27 (Zi := Zi) (D := D) (s := (us s2 3000 j19)) (p := p) (c := c) hd (bS_us hS2 (show 0 ≤ j19 ∧ j19 ≤ 2 by omega)) hC    ?_ _ 0 (none) (us s2 3000 j19) (by omega) (bS_us hS2 (show 0 ≤ j19 ∧ j19 ≤ 2 by omega)) fr_rf (fun h => h) (fun _ => cvp_0) (show 0 ≤ (s2 3003) by omega) (Nat.lt_succ_self _)
    intro x23 x24 s25 b26 hS25 f27 i28 i29 i30 hx31
    show tt Zi d 143 (115, [some (.inr (.inl 30)), some (.inl nn), some (.inl x23), x24], [], n, D, s25, p, c) _
    replace i28 : j19 ≠ 0 → (s25 3000) ≠ 0 := i28
    replace i29 : (s25 3000) = 0 → cvp ((s25 3001)) ((s25 3002)) ((s25 3017)) ((c 31)) x23 := i29
    replace i30 : x23 ≤ (s2 3003) := i30
    replace hx31 : (s25 3000) ≠ 0 ∨ (s2 3003) ≤ x23 := hx31
    have e32 : s25 3001 = (s2 3001) := (f27 3001 (by decide))
    have b33 : 1 ≤ (s25 3001) ∧ (s25 3001) ≤ 64 := hS25 3001
    have e34 : s25 3002 = (s2 3002) := (f27 3002 (by decide))
    have b35 : 1 ≤ (s25 3002) ∧ (s25 3002) ≤ 64 := hS25 3002
    have e36 : s25 3017 = (s2 3017) := (f27 3017 (by decide))
    have b37 : 0 ≤ (s25 3017) ∧ (s25 3017) ≤ 65535 := hS25 3017
    have b38 : 0 ≤ (s2 3017) ∧ (s2 3017) ≤ 65535 := hS2 3017
    have e39 : s25 3003 = (s2 3003) := (f27 3003 (by decide))
    have b40 : 1 ≤ (s25 3003) ∧ (s25 3003) ≤ 3 := hS25 3003
    refine tt_k 2 (S' := (119, [some (.inr (.inl 30)), some (.inl nn), some (.inl x23), x24], [.inl (s25 3000)], n, D, s25, p, c)) rfl ?_
    have b41 : 0 ≤ (s25 3000) ∧ (s25 3000) ≤ 2 := hS25 3000
    refine tz_le (x := (s25 3000)) rfl rfl (by omega) (fun h42 => ?_) (fun h42 => ?_)
    · show tt Zi d 143 (124, [some (.inr (.inl 30)), some (.inl nn), some (.inl x23), x24], [], n, D, s25, p, c) _
      have hmv : mv s25 := mv_fr f27 (by decide) (mv_us (by decide) (k6 (by omega)))
      have hcva : cvp (s25 3001) (s25 3002) (s25 3017) (c 31) (s25 3003) := cvp_mono (i29 (by omega)) (by omega)
      have z43 : -2147483648 ≤ nn ∧ nn ≤ 2147483647 := by omega
      have z44 : 0 ≤ x23 ∧ x23 ≤ 3 := by omega
      clear b41 b40 e39 b38 b37 e36 b35 e34 b33 e32 b26 i28 i29 i30 hx31 b22 hj21 b18 b17 b15 b14 b12 b11 b9 b8 b5 k6 b1 h42
      refine tt_k 5 (S' := (133, [some (.inr (.inl 30)), some (.inl nn), some (.inl x23), x24], [.inl 216, .inr (.inl 30)], n, D, (us s25 3016 0), p, c)) rfl ?_
      refine tt_cl (by omega) rfl (k_mark (Zi := Zi) (D := D) (s := (us s25 3016 0)) (p := p) (c := c) (by omega) (bS_us hS25 (show 0 ≤ 0 ∧ 0 ≤ 65536 by omega)) hC 216 (by omega) (show 0 ≤ 65534 by omega)) ?_
      rintro _ _ ⟨s45, c46, rfl, rfl, hS45, hC46, f47, g48, k49⟩
      have hc50 : mv s45 := mv_fr f47 (by decide) (mv_us (by decide) hmv)
      show tt Zi d 143 (136, [some (.inr (.inl 30)), some (.inl nn), some (.inl x23), x24], [], n, D, s45, p, c46) _
      replace k49 : (s45 3016) = 0 + 2 := k49
      have b51 : 0 ≤ (s45 3016) ∧ (s45 3016) ≤ 65536 := hS45 3016
      have e52 : s45 3000 = (s25 3000) := (f47 3000 (by decide))
      have b53 : 0 ≤ (s45 3000) ∧ (s45 3000) ≤ 2 := hS45 3000
      have b54 : 0 ≤ (s25 3000) ∧ (s25 3000) ≤ 2 := hS25 3000
      have e55 : s45 3001 = (s25 3001) := (f47 3001 (by decide))
      have b56 : 1 ≤ (s45 3001) ∧ (s45 3001) ≤ 64 := hS45 3001
      have b57 : 1 ≤ (s25 3001) ∧ (s25 3001) ≤ 64 := hS25 3001
      have e58 : s45 3002 = (s25 3002) := (f47 3002 (by decide))
      have b59 : 1 ≤ (s45 3002) ∧ (s45 3002) ≤ 64 := hS45 3002
      have b60 : 1 ≤ (s25 3002) ∧ (s25 3002) ≤ 64 := hS25 3002
      have e61 : s45 3017 = (s25 3017) := (f47 3017 (by decide))
      have b62 : 0 ≤ (s45 3017) ∧ (s45 3017) ≤ 65535 := hS45 3017
      have b63 : 0 ≤ (s25 3017) ∧ (s25 3017) ≤ 65535 := hS25 3017
      have e64 : s45 3003 = (s25 3003) := (f47 3003 (by decide))
      have b65 : 1 ≤ (s45 3003) ∧ (s45 3003) ≤ 3 := hS45 3003
      have b66 : 1 ≤ (s25 3003) ∧ (s25 3003) ≤ 3 := hS25 3003
      refine tt_k 2 (S' := (140, [some (.inr (.inl 30)), some (.inl nn), some (.inl x23), x24], [.inl 247, .inr (.inl 30)], n, D, s45, p, c46)) rfl ?_
      refine tt_cl (by omega) rfl (k_mark (Zi := Zi) (D := D) (s := s45) (p := p) (c := c46) (by omega) hS45 hC46 247 (by omega) (show (s45 3016) ≤ 65534 by omega)) ?_
      rintro _ _ ⟨s67, c68, rfl, rfl, hS67, hC68, f69, g70, k71⟩
      have hc72 : mv s67 := mv_fr f69 (by decide) hc50
      show tt Zi d 143 (143, [some (.inr (.inl 30)), some (.inl nn), some (.inl x23), x24], [], n, D, s67, p, c68) _
      replace k71 : (s67 3016) = (s45 3016) + 2 := k71
      have b73 : 0 ≤ (s67 3016) ∧ (s67 3016) ≤ 65536 := hS67 3016
      have e74 : s67 3000 = (s45 3000) := (f69 3000 (by decide))
      have b75 : 0 ≤ (s67 3000) ∧ (s67 3000) ≤ 2 := hS67 3000
      have e76 : s67 3001 = (s45 3001) := (f69 3001 (by decide))
      have b77 : 1 ≤ (s67 3001) ∧ (s67 3001) ≤ 64 := hS67 3001
      have e78 : s67 3002 = (s45 3002) := (f69 3002 (by decide))
      have b79 : 1 ≤ (s67 3002) ∧ (s67 3002) ≤ 64 := hS67 3002
      have e80 : s67 3017 = (s45 3017) := (f69 3017 (by decide))
      have b81 : 0 ≤ (s67 3017) ∧ (s67 3017) ≤ 65535 := hS67 3017
      have e82 : s67 3003 = (s45 3003) := (f69 3003 (by decide))
      have b83 : 1 ≤ (s67 3003) ∧ (s67 3003) ≤ 3 := hS67 3003
      refine tt_k 7 (S' := (153, [some (.inr (.inl 30)), some (.inl nn), some (.inl x23), x24], [.inl ((8 + (3 * (s67 3003)))), .inr (.inl 30)], n, D, s67, p, c68)) rfl ?_
      refine tt_cl (by omega) rfl (k_two (Zi := Zi) (D := D) (s := s67) (p := p) (c := c68) (by omega) hS67 hC68 ((8 + (3 * (s67 3003)))) (by omega) (show (s67 3016) ≤ 65534 by omega)) ?_
      rintro _ _ ⟨s84, c85, rfl, rfl, hS84, hC85, f86, g87, k88⟩
      have hc89 : mv s84 := mv_fr f86 (by decide) hc72
      show tt Zi d 143 (156, [some (.inr (.inl 30)), some (.inl nn), some (.inl x23), x24], [], n, D, s84, p, c85) _
      replace k88 : (s84 3016) = (s67 3016) + 2 := k88
      have b90 : 0 ≤ (s84 3016) ∧ (s84 3016) ≤ 65536 := hS84 3016
      have e91 : s84 3000 = (s67 3000) := (f86 3000 (by decide))
      have b92 : 0 ≤ (s84 3000) ∧ (s84 3000) ≤ 2 := hS84 3000
      have e93 : s84 3001 = (s67 3001) := (f86 3001 (by decide))
      have b94 : 1 ≤ (s84 3001) ∧ (s84 3001) ≤ 64 := hS84 3001
      have e95 : s84 3002 = (s67 3002) := (f86 3002 (by decide))
      have b96 : 1 ≤ (s84 3002) ∧ (s84 3002) ≤ 64 := hS84 3002
      have e97 : s84 3017 = (s67 3017) := (f86 3017 (by decide))
      have b98 : 0 ≤ (s84 3017) ∧ (s84 3017) ≤ 65535 := hS84 3017
      have e99 : s84 3003 = (s67 3003) := (f86 3003 (by decide))
      have b100 : 1 ≤ (s84 3003) ∧ (s84 3003) ≤ 3 := hS84 3003
      refine tt_k 3 (S' := (161, [some (.inr (.inl 30)), some (.inl nn), some (.inl x23), x24], [.inl (s84 3004), .inr (.inl 30)], n, D, s84, p, c85)) rfl ?_
      have b101 : 2 ≤ (s84 3004) ∧ (s84 3004) ≤ 16 := hS84 3004
      refine tt_cl (by omega) rfl (k_add (Zi := Zi) (D := D) (s := s84) (p := p) (c := c85) (by omega) hS84 hC85 (s84 3004) (by omega) (show (s84 3016) ≤ 65535 by omega)) ?_
      rintro _ _ ⟨s102, c103, rfl, rfl, hS102, hC103, f104, g105, k106, k107⟩
      have hc108 : mv s102 := mv_fr f104 (by decide) hc89
      show tt Zi d 143 (164, [some (.inr (.inl 30)), some (.inl nn), some (.inl x23), x24], [], n, D, s102, p, c103) _
      replace k106 : (s102 3016) = (s84 3016) + 1 := k106
      replace k107 : (c103 35) = ua ((c85 35)) ((s84 3016)).toNat (mi_nb (mi_i2b (s84 3004))) := k107
      have b109 : 0 ≤ (s102 3016) ∧ (s102 3016) ≤ 65536 := hS102 3016
      have e110 : s102 3000 = (s84 3000) := (f104 3000 (by decide))
      have b111 : 0 ≤ (s102 3000) ∧ (s102 3000) ≤ 2 := hS102 3000
      have e112 : s102 3001 = (s84 3001) := (f104 3001 (by decide))
      have b113 : 1 ≤ (s102 3001) ∧ (s102 3001) ≤ 64 := hS102 3001
      have e114 : s102 3002 = (s84 3002) := (f104 3002 (by decide))
      have b115 : 1 ≤ (s102 3002) ∧ (s102 3002) ≤ 64 := hS102 3002
      have e116 : s102 3017 = (s84 3017) := (f104 3017 (by decide))
      have b117 : 0 ≤ (s102 3017) ∧ (s102 3017) ≤ 65535 := hS102 3017
      have e118 : s102 3003 = (s84 3003) := (f104 3003 (by decide))
      have b119 : 1 ≤ (s102 3003) ∧ (s102 3003) ≤ 3 := hS102 3003
      refine tt_k 3 (S' := (169, [some (.inr (.inl 30)), some (.inl nn), some (.inl x23), x24], [.inl (s102 3002), .inr (.inl 30)], n, D, s102, p, c103)) rfl ?_
      refine tt_cl (by omega) rfl (k_two (Zi := Zi) (D := D) (s := s102) (p := p) (c := c103) (by omega) hS102 hC103 (s102 3002) (by omega) (show (s102 3016) ≤ 65534 by omega)) ?_
      rintro _ _ ⟨s120, c121, rfl, rfl, hS120, hC121, f122, g123, k124⟩
      have hc125 : mv s120 := mv_fr f122 (by decide) hc108
      show tt Zi d 143 (172, [some (.inr (.inl 30)), some (.inl nn), some (.inl x23), x24], [], n, D, s120, p, c121) _
      replace k124 : (s120 3016) = (s102 3016) + 2 := k124
      have b126 : 0 ≤ (s120 3016) ∧ (s120 3016) ≤ 65536 := hS120 3016
      have e127 : s120 3000 = (s102 3000) := (f122 3000 (by decide))
      have b128 : 0 ≤ (s120 3000) ∧ (s120 3000) ≤ 2 := hS120 3000
      have e129 : s120 3001 = (s102 3001) := (f122 3001 (by decide))
      have b130 : 1 ≤ (s120 3001) ∧ (s120 3001) ≤ 64 := hS120 3001
      have e131 : s120 3002 = (s102 3002) := (f122 3002 (by decide))
      have b132 : 1 ≤ (s120 3002) ∧ (s120 3002) ≤ 64 := hS120 3002
      have e133 : s120 3017 = (s102 3017) := (f122 3017 (by decide))
      have b134 : 0 ≤ (s120 3017) ∧ (s120 3017) ≤ 65535 := hS120 3017
      have e135 : s120 3003 = (s102 3003) := (f122 3003 (by decide))
      have b136 : 1 ≤ (s120 3003) ∧ (s120 3003) ≤ 3 := hS120 3003
      refine tt_k 3 (S' := (177, [some (.inr (.inl 30)), some (.inl nn), some (.inl x23), x24], [.inl (s120 3001), .inr (.inl 30)], n, D, s120, p, c121)) rfl ?_
      refine tt_cl (by omega) rfl (k_two (Zi := Zi) (D := D) (s := s120) (p := p) (c := c121) (by omega) hS120 hC121 (s120 3001) (by omega) (show (s120 3016) ≤ 65534 by omega)) ?_
      rintro _ _ ⟨s137, c138, rfl, rfl, hS137, hC138, f139, g140, k141⟩
      have hc142 : mv s137 := mv_fr f139 (by decide) hc125
      show tt Zi d 143 (180, [some (.inr (.inl 30)), some (.inl nn), some (.inl x23), x24], [], n, D, s137, p, c138) _
      replace k141 : (s137 3016) = (s120 3016) + 2 := k141
      have b143 : 0 ≤ (s137 3016) ∧ (s137 3016) ≤ 65536 := hS137 3016
      have e144 : s137 3000 = (s120 3000) := (f139 3000 (by decide))
      have b145 : 0 ≤ (s137 3000) ∧ (s137 3000) ≤ 2 := hS137 3000
      have e146 : s137 3001 = (s120 3001) := (f139 3001 (by decide))
      have b147 : 1 ≤ (s137 3001) ∧ (s137 3001) ≤ 64 := hS137 3001
      have e148 : s137 3002 = (s120 3002) := (f139 3002 (by decide))
      have b149 : 1 ≤ (s137 3002) ∧ (s137 3002) ≤ 64 := hS137 3002
      have e150 : s137 3017 = (s120 3017) := (f139 3017 (by decide))
      have b151 : 0 ≤ (s137 3017) ∧ (s137 3017) ≤ 65535 := hS137 3017
      have e152 : s137 3003 = (s120 3003) := (f139 3003 (by decide))
      have b153 : 1 ≤ (s137 3003) ∧ (s137 3003) ≤ 3 := hS137 3003
      refine tt_k 3 (S' := (185, [some (.inr (.inl 30)), some (.inl nn), some (.inl x23), x24], [.inl (s137 3003), .inr (.inl 30)], n, D, s137, p, c138)) rfl ?_
      refine tt_cl (by omega) rfl (k_add (Zi := Zi) (D := D) (s := s137) (p := p) (c := c138) (by omega) hS137 hC138 (s137 3003) (by omega) (show (s137 3016) ≤ 65535 by omega)) ?_
      rintro _ _ ⟨s154, c155, rfl, rfl, hS154, hC155, f156, g157, k158, k159⟩
      have hc160 : mv s154 := mv_fr f156 (by decide) hc142
      show tt Zi d 143 (188, [some (.inr (.inl 30)), some (.inl nn), some (.inl x23), x24], [], n, D, s154, p, c155) _
      replace k158 : (s154 3016) = (s137 3016) + 1 := k158
      replace k159 : (c155 35) = ua ((c138 35)) ((s137 3016)).toNat (mi_nb (mi_i2b (s137 3003))) := k159
      have b161 : 0 ≤ (s154 3016) ∧ (s154 3016) ≤ 65536 := hS154 3016
      have e162 : s154 3000 = (s137 3000) := (f156 3000 (by decide))
      have b163 : 0 ≤ (s154 3000) ∧ (s154 3000) ≤ 2 := hS154 3000
      have e164 : s154 3001 = (s137 3001) := (f156 3001 (by decide))
      have b165 : 1 ≤ (s154 3001) ∧ (s154 3001) ≤ 64 := hS154 3001
      have e166 : s154 3002 = (s137 3002) := (f156 3002 (by decide))
      have b167 : 1 ≤ (s154 3002) ∧ (s154 3002) ≤ 64 := hS154 3002
      have e168 : s154 3017 = (s137 3017) := (f156 3017 (by decide))
      have b169 : 0 ≤ (s154 3017) ∧ (s154 3017) ≤ 65535 := hS154 3017
      have e170 : s154 3003 = (s137 3003) := (f156 3003 (by decide))
      have b171 : 1 ≤ (s154 3003) ∧ (s154 3003) ≤ 3 := hS154 3003
      refine tt_k 2 (S' := (190, [some (.inr (.inl 30)), some (.inl nn), some (.inl 0), x24], [], n, D, s154, p, c155)) rfl ?_
      refine k_pack_L190 (Zi := Zi) (D := D) (s := s154) (p := p) (c := c155) hd hS154 hC155   (show (s154 3016) ≤ 20 by omega) ?_ _ 0 s154 c155 (by omega) hS154 fr_rf hC155 frc_rf (show (s154 3016) = (s154 3016) + 3 * 0 by omega) (show 0 ≤ (s154 3003) by omega) (Nat.lt_succ_self _)
      intro x172 s173 c174 b175 hS173 f176 hC174 g177 i178 i179 hx180
      show tt Zi d 143 (222, [some (.inr (.inl 30)), some (.inl nn), some (.inl x172), x24], [], n, D, s173, p, c174) _
      replace i178 : (s173 3016) = (s154 3016) + 3 * x172 := i178
      replace i179 : x172 ≤ (s154 3003) := i179
      have hc181 : mv s173 := mv_fr f176 (by decide) hc160
      have e182 : s173 3000 = (s154 3000) := (f176 3000 (by decide))
      have b183 : 0 ≤ (s173 3000) ∧ (s173 3000) ≤ 2 := hS173 3000
      have e184 : s173 3001 = (s154 3001) := (f176 3001 (by decide))
      have b185 : 1 ≤ (s173 3001) ∧ (s173 3001) ≤ 64 := hS173 3001
      have e186 : s173 3002 = (s154 3002) := (f176 3002 (by decide))
      have b187 : 1 ≤ (s173 3002) ∧ (s173 3002) ≤ 64 := hS173 3002
      have e188 : s173 3017 = (s154 3017) := (f176 3017 (by decide))
      have b189 : 0 ≤ (s173 3017) ∧ (s173 3017) ≤ 65535 := hS173 3017
      have e190 : s173 3003 = (s154 3003) := (f176 3003 (by decide))
      have b191 : 1 ≤ (s173 3003) ∧ (s173 3003) ≤ 3 := hS173 3003
      refine tt_k 4 (S' := (226, [some (.inr (.inl 30)), some (.inl nn), some (.inl 0), some (.inl 0)], [], n, D, s173, p, c174)) rfl ?_
      refine k_pack_L226 (Zi := Zi) (D := D) (s := s173) (p := p) (c := c174) hd hS173 hC174    ?_ _ 0 0  (by omega) (by omega) (Nat.lt_succ_self _)
      intro x192 x193 b194 b195 hx196
      show tt Zi d 143 (256, [some (.inr (.inl 30)), some (.inl nn), some (.inl x192), some (.inl x193)], [], n, D, s173, p, c174) _
      refine tt_k 1 (S' := (257, [some (.inr (.inl 30)), some (.inl nn), some (.inl x192), some (.inl x193)], [.inl x192], n, D, s173, p, c174)) rfl ?_
      refine tz_eq (x := x192) rfl rfl (by omega) (fun h197 => ?_) (fun h197 => ?_)
      · show tt Zi d 143 (301, [some (.inr (.inl 30)), some (.inl nn), some (.inl x192), some (.inl x193)], [], n, D, s173, p, c174) _
        have xW : s173 3001 = s25 3001 := ((f176 3001 (by decide)).trans ((f156 3001 (by decide)).trans ((f139 3001 (by decide)).trans ((f122 3001 (by decide)).trans ((f104 3001 (by decide)).trans ((f86 3001 (by decide)).trans ((f69 3001 (by decide)).trans (f47 3001 (by decide)))))))))
        have xH : s173 3002 = s25 3002 := ((f176 3002 (by decide)).trans ((f156 3002 (by decide)).trans ((f139 3002 (by decide)).trans ((f122 3002 (by decide)).trans ((f104 3002 (by decide)).trans ((f86 3002 (by decide)).trans ((f69 3002 (by decide)).trans (f47 3002 (by decide)))))))))
        have xM : s173 3017 = s25 3017 := ((f176 3017 (by decide)).trans ((f156 3017 (by decide)).trans ((f139 3017 (by decide)).trans ((f122 3017 (by decide)).trans ((f104 3017 (by decide)).trans ((f86 3017 (by decide)).trans ((f69 3017 (by decide)).trans (f47 3017 (by decide)))))))))
        have xP : s173 3003 = s25 3003 := ((f176 3003 (by decide)).trans ((f156 3003 (by decide)).trans ((f139 3003 (by decide)).trans ((f122 3003 (by decide)).trans ((f104 3003 (by decide)).trans ((f86 3003 (by decide)).trans ((f69 3003 (by decide)).trans (f47 3003 (by decide)))))))))
        have x31 : c174 31 = c 31 := ((g177 31 (by decide)).trans ((g157 31 (by decide)).trans ((g140 31 (by decide)).trans ((g123 31 (by decide)).trans ((g105 31 (by decide)).trans ((g87 31 (by decide)).trans ((g70 31 (by decide)).trans (g48 31 (by decide)))))))))
        have b198 : 0 ≤ (s173 3016) ∧ (s173 3016) ≤ 65536 := hS173 3016
        refine tt_mono (k_packC (Zi := Zi) (D := D) (s := s173) (p := p) (c := c174) (by omega) hS173 hC174 nn x192 x193 (by omega) hc181 (show (s173 3016) ≤ 64 by omega) (by rw [xW, xH, xM, xP, x31]; exact hcva)) ?_
        rintro _ _ ⟨s199, c200, r201, rfl, rfl, hS199, hC200, f202, g203, b204⟩
        exact ⟨s199, c200, r201, rfl, rfl, hS199, hC200, (fr_tr (fr_tr (fr_tr (fr_tr (fr_tr (fr_tr (fr_tr (fr_tr (fr_tr (fr_us (by decide) (fr_tr (fr_us (by decide) (fr_tr fr_rf f4 (by decide))) f27 (by decide))) f47 (by decide)) f69 (by decide)) f86 (by decide)) f104 (by decide)) f122 (by decide)) f139 (by decide)) f156 (by decide)) f176 (by decide)) f202 (by decide)), (frc_tr (frc_tr (frc_tr (frc_tr (frc_tr (frc_tr (frc_tr (frc_tr (frc_tr frc_rf g48 (by decide)) g70 (by decide)) g87 (by decide)) g105 (by decide)) g123 (by decide)) g140 (by decide)) g157 (by decide)) g177 (by decide)) g203 (by decide)), by omega⟩
      · show tt Zi d 143 (260, [some (.inr (.inl 30)), some (.inl nn), some (.inl x192), some (.inl x193)], [], n, D, s173, p, c174) _
        refine tt_k 2 (S' := (264, [some (.inr (.inl 30)), some (.inl nn), some (.inl x192), some (.inl x193)], [.inl 248, .inr (.inl 30)], n, D, s173, p, c174)) rfl ?_
        have b205 : 0 ≤ (s173 3016) ∧ (s173 3016) ≤ 65536 := hS173 3016
        refine tt_cl (by omega) rfl (k_mark (Zi := Zi) (D := D) (s := s173) (p := p) (c := c174) (by omega) hS173 hC174 248 (by omega) (show (s173 3016) ≤ 65534 by omega)) ?_
        rintro _ _ ⟨s206, c207, rfl, rfl, hS206, hC207, f208, g209, k210⟩
        have hc211 : mv s206 := mv_fr f208 (by decide) hc181
        show tt Zi d 143 (267, [some (.inr (.inl 30)), some (.inl nn), some (.inl x192), some (.inl x193)], [], n, D, s206, p, c207) _
        replace k210 : (s206 3016) = (s173 3016) + 2 := k210
        have b212 : 0 ≤ (s206 3016) ∧ (s206 3016) ≤ 65536 := hS206 3016
        have e213 : s206 3000 = (s173 3000) := (f208 3000 (by decide))
        have b214 : 0 ≤ (s206 3000) ∧ (s206 3000) ≤ 2 := hS206 3000
        have e215 : s206 3001 = (s173 3001) := (f208 3001 (by decide))
        have b216 : 1 ≤ (s206 3001) ∧ (s206 3001) ≤ 64 := hS206 3001
        have e217 : s206 3002 = (s173 3002) := (f208 3002 (by decide))
        have b218 : 1 ≤ (s206 3002) ∧ (s206 3002) ≤ 64 := hS206 3002
        have e219 : s206 3017 = (s173 3017) := (f208 3017 (by decide))
        have b220 : 0 ≤ (s206 3017) ∧ (s206 3017) ≤ 65535 := hS206 3017
        have e221 : s206 3003 = (s173 3003) := (f208 3003 (by decide))
        have b222 : 1 ≤ (s206 3003) ∧ (s206 3003) ≤ 3 := hS206 3003
        refine tt_k 2 (S' := (270, [some (.inr (.inl 30)), some (.inl nn), some (.inl x192), some (.inl x193)], [.inl 13, .inr (.inl 30)], n, D, s206, p, c207)) rfl ?_
        refine tt_cl (by omega) rfl (k_two (Zi := Zi) (D := D) (s := s206) (p := p) (c := c207) (by omega) hS206 hC207 13 (by omega) (show (s206 3016) ≤ 65534 by omega)) ?_
        rintro _ _ ⟨s223, c224, rfl, rfl, hS223, hC224, f225, g226, k227⟩
        have hc228 : mv s223 := mv_fr f225 (by decide) hc211
        show tt Zi d 143 (273, [some (.inr (.inl 30)), some (.inl nn), some (.inl x192), some (.inl x193)], [], n, D, s223, p, c224) _
        replace k227 : (s223 3016) = (s206 3016) + 2 := k227
        have b229 : 0 ≤ (s223 3016) ∧ (s223 3016) ≤ 65536 := hS223 3016
        have e230 : s223 3000 = (s206 3000) := (f225 3000 (by decide))
        have b231 : 0 ≤ (s223 3000) ∧ (s223 3000) ≤ 2 := hS223 3000
        have e232 : s223 3001 = (s206 3001) := (f225 3001 (by decide))
        have b233 : 1 ≤ (s223 3001) ∧ (s223 3001) ≤ 64 := hS223 3001
        have e234 : s223 3002 = (s206 3002) := (f225 3002 (by decide))
        have b235 : 1 ≤ (s223 3002) ∧ (s223 3002) ≤ 64 := hS223 3002
        have e236 : s223 3017 = (s206 3017) := (f225 3017 (by decide))
        have b237 : 0 ≤ (s223 3017) ∧ (s223 3017) ≤ 65535 := hS223 3017
        have e238 : s223 3003 = (s206 3003) := (f225 3003 (by decide))
        have b239 : 1 ≤ (s223 3003) ∧ (s223 3003) ≤ 3 := hS223 3003
        refine tt_k 2 (S' := (275, [some (.inr (.inl 30)), some (.inl nn), some (.inl x192), some (.inl x193)], [.inl 1, .inr (.inl 30)], n, D, s223, p, c224)) rfl ?_
        refine tt_cl (by omega) rfl (k_add (Zi := Zi) (D := D) (s := s223) (p := p) (c := c224) (by omega) hS223 hC224 1 (by omega) (show (s223 3016) ≤ 65535 by omega)) ?_
        rintro _ _ ⟨s240, c241, rfl, rfl, hS240, hC241, f242, g243, k244, k245⟩
        have hc246 : mv s240 := mv_fr f242 (by decide) hc228
        show tt Zi d 143 (278, [some (.inr (.inl 30)), some (.inl nn), some (.inl x192), some (.inl x193)], [], n, D, s240, p, c241) _
        replace k244 : (s240 3016) = (s223 3016) + 1 := k244
        replace k245 : (c241 35) = ua ((c224 35)) ((s223 3016)).toNat (mi_nb (mi_i2b 1)) := k245
        have b247 : 0 ≤ (s240 3016) ∧ (s240 3016) ≤ 65536 := hS240 3016
        have e248 : s240 3000 = (s223 3000) := (f242 3000 (by decide))
        have b249 : 0 ≤ (s240 3000) ∧ (s240 3000) ≤ 2 := hS240 3000
        have e250 : s240 3001 = (s223 3001) := (f242 3001 (by decide))
        have b251 : 1 ≤ (s240 3001) ∧ (s240 3001) ≤ 64 := hS240 3001
        have e252 : s240 3002 = (s223 3002) := (f242 3002 (by decide))
        have b253 : 1 ≤ (s240 3002) ∧ (s240 3002) ≤ 64 := hS240 3002
        have e254 : s240 3017 = (s223 3017) := (f242 3017 (by decide))
        have b255 : 0 ≤ (s240 3017) ∧ (s240 3017) ≤ 65535 := hS240 3017
        have e256 : s240 3003 = (s223 3003) := (f242 3003 (by decide))
        have b257 : 1 ≤ (s240 3003) ∧ (s240 3003) ≤ 3 := hS240 3003
        refine tt_k 2 (S' := (280, [some (.inr (.inl 30)), some (.inl nn), some (.inl x192), some (.inl 0)], [], n, D, s240, p, c241)) rfl ?_
        refine k_pack_L280 (Zi := Zi) (D := D) (s := s240) (p := p) (c := c241) hd hS240 hC241   (show (s240 3016) ≤ 40 by omega) ?_ _ 0 s240 c241 (by omega) hS240 fr_rf hC241 frc_rf (show (s240 3016) = (s240 3016) + 2 * 0 by omega) (Nat.lt_succ_self _)
        intro x258 s259 c260 b261 hS259 f262 hC260 g263 i264 hx265
        show tt Zi d 143 (301, [some (.inr (.inl 30)), some (.inl nn), some (.inl x192), some (.inl x258)], [], n, D, s259, p, c260) _
        replace i264 : (s259 3016) = (s240 3016) + 2 * x258 := i264
        have hc266 : mv s259 := mv_fr f262 (by decide) hc246
        have e267 : s259 3000 = (s240 3000) := (f262 3000 (by decide))
        have b268 : 0 ≤ (s259 3000) ∧ (s259 3000) ≤ 2 := hS259 3000
        have e269 : s259 3001 = (s240 3001) := (f262 3001 (by decide))
        have b270 : 1 ≤ (s259 3001) ∧ (s259 3001) ≤ 64 := hS259 3001
        have e271 : s259 3002 = (s240 3002) := (f262 3002 (by decide))
        have b272 : 1 ≤ (s259 3002) ∧ (s259 3002) ≤ 64 := hS259 3002
        have e273 : s259 3017 = (s240 3017) := (f262 3017 (by decide))
        have b274 : 0 ≤ (s259 3017) ∧ (s259 3017) ≤ 65535 := hS259 3017
        have e275 : s259 3003 = (s240 3003) := (f262 3003 (by decide))
        have b276 : 1 ≤ (s259 3003) ∧ (s259 3003) ≤ 3 := hS259 3003
        have xW : s259 3001 = s25 3001 := ((f262 3001 (by decide)).trans ((f242 3001 (by decide)).trans ((f225 3001 (by decide)).trans ((f208 3001 (by decide)).trans ((f176 3001 (by decide)).trans ((f156 3001 (by decide)).trans ((f139 3001 (by decide)).trans ((f122 3001 (by decide)).trans ((f104 3001 (by decide)).trans ((f86 3001 (by decide)).trans ((f69 3001 (by decide)).trans (f47 3001 (by decide)))))))))))))
        have xH : s259 3002 = s25 3002 := ((f262 3002 (by decide)).trans ((f242 3002 (by decide)).trans ((f225 3002 (by decide)).trans ((f208 3002 (by decide)).trans ((f176 3002 (by decide)).trans ((f156 3002 (by decide)).trans ((f139 3002 (by decide)).trans ((f122 3002 (by decide)).trans ((f104 3002 (by decide)).trans ((f86 3002 (by decide)).trans ((f69 3002 (by decide)).trans (f47 3002 (by decide)))))))))))))
        have xM : s259 3017 = s25 3017 := ((f262 3017 (by decide)).trans ((f242 3017 (by decide)).trans ((f225 3017 (by decide)).trans ((f208 3017 (by decide)).trans ((f176 3017 (by decide)).trans ((f156 3017 (by decide)).trans ((f139 3017 (by decide)).trans ((f122 3017 (by decide)).trans ((f104 3017 (by decide)).trans ((f86 3017 (by decide)).trans ((f69 3017 (by decide)).trans (f47 3017 (by decide)))))))))))))
        have xP : s259 3003 = s25 3003 := ((f262 3003 (by decide)).trans ((f242 3003 (by decide)).trans ((f225 3003 (by decide)).trans ((f208 3003 (by decide)).trans ((f176 3003 (by decide)).trans ((f156 3003 (by decide)).trans ((f139 3003 (by decide)).trans ((f122 3003 (by decide)).trans ((f104 3003 (by decide)).trans ((f86 3003 (by decide)).trans ((f69 3003 (by decide)).trans (f47 3003 (by decide)))))))))))))
        have x31 : c260 31 = c 31 := ((g263 31 (by decide)).trans ((g243 31 (by decide)).trans ((g226 31 (by decide)).trans ((g209 31 (by decide)).trans ((g177 31 (by decide)).trans ((g157 31 (by decide)).trans ((g140 31 (by decide)).trans ((g123 31 (by decide)).trans ((g105 31 (by decide)).trans ((g87 31 (by decide)).trans ((g70 31 (by decide)).trans (g48 31 (by decide)))))))))))))
        have b277 : 0 ≤ (s259 3016) ∧ (s259 3016) ≤ 65536 := hS259 3016
        refine tt_mono (k_packC (Zi := Zi) (D := D) (s := s259) (p := p) (c := c260) (by omega) hS259 hC260 nn x192 x258 (by omega) hc266 (show (s259 3016) ≤ 64 by omega) (by rw [xW, xH, xM, xP, x31]; exact hcva)) ?_
        rintro _ _ ⟨s278, c279, r280, rfl, rfl, hS278, hC279, f281, g282, b283⟩
        exact ⟨s278, c279, r280, rfl, rfl, hS278, hC279, (fr_tr (fr_tr (fr_tr (fr_tr (fr_tr (fr_tr (fr_tr (fr_tr (fr_tr (fr_tr (fr_tr (fr_tr (fr_tr (fr_us (by decide) (fr_tr (fr_us (by decide) (fr_tr fr_rf f4 (by decide))) f27 (by decide))) f47 (by decide)) f69 (by decide)) f86 (by decide)) f104 (by decide)) f122 (by decide)) f139 (by decide)) f156 (by decide)) f176 (by decide)) f208 (by decide)) f225 (by decide)) f242 (by decide)) f262 (by decide)) f281 (by decide)), (frc_tr (frc_tr (frc_tr (frc_tr (frc_tr (frc_tr (frc_tr (frc_tr (frc_tr (frc_tr (frc_tr (frc_tr (frc_tr frc_rf g48 (by decide)) g70 (by decide)) g87 (by decide)) g105 (by decide)) g123 (by decide)) g140 (by decide)) g157 (by decide)) g177 (by decide)) g209 (by decide)) g226 (by decide)) g243 (by decide)) g263 (by decide)) g282 (by decide)), by omega⟩
    · show tt Zi d 143 (122, [some (.inr (.inl 30)), some (.inl nn), some (.inl x23), x24], [], n, D, s25, p, c) _
      refine tt_k 1 (S' := (123, [some (.inr (.inl 30)), some (.inl nn), some (.inl x23), x24], [.inl 0], n, D, s25, p, c)) rfl ?_
      exact tt_rti rfl rfl ⟨s25, c, 0, rfl, rfl, hS25, hC, (fr_tr (fr_us (by decide) (fr_tr fr_rf f4 (by decide))) f27 (by decide)), frc_rf, by omega⟩
  refine tz_eq (x := r3) rfl rfl (by omega) (fun h284 => ?_) (fun h284 => ?_)
  · show tt Zi d 143 (21, [some (.inr (.inl 30)), some (.inl nn), none, none], [.inr (.inl 30)], n, D, s2, p, c) _
    refine tt_k 1 (S' := (22, [some (.inr (.inl 30)), some (.inl nn), none, none], [.inl 1, .inr (.inl 30)], n, D, s2, p, c)) rfl ?_
    exact K20 1  (by omega) (Or.inl ⟨h284, rfl⟩)
  · show tt Zi d 143 (17, [some (.inr (.inl 30)), some (.inl nn), none, none], [.inr (.inl 30)], n, D, s2, p, c) _
    refine tt_k 2 (S' := (22, [some (.inr (.inl 30)), some (.inl nn), none, none], [.inl 0, .inr (.inl 30)], n, D, s2, p, c)) rfl ?_
    exact K20 0  (by omega) (Or.inr (⟨h284, rfl⟩))
