/-! the class's plane -/
set_option maxRecDepth 100000 in
set_option maxHeartbeats 4000000 in
theorem g_tellPlane12_1_L66 {g : Nat → Int} {Zi : Nat → Option (Nat × (Nat → Int))} {d n q : Nat} {D : Nat → Nat × Nat} {s : Nat → Int} {p : Nat → Nat} {c : Nat → Nat → Int}  {Q : mi_Rs → mi_H → Prop} (hd : 5 ≤ d) (hz : zk Zi) (hq : q + 10 ≤ 400001) (hS : bS s) (hC : bC D c) (hW : wp q g n D p s) (U : Int) (a_ : Int) (y : Int) (b_a_ : 0 ≤ a_ ∧ a_ ≤ 2) (b_y : 0 ≤ y ∧ y ≤ 63) (hq0 : s 1207 + s 1206 ≤ (ln D (p 1205) : Int)) (hq1 : 0 ≤ s 801 ∧ s 801 ≤ 255) (hq2 : U + 457600 ≤ 1834000)
  (hK : ∀ (x : Int) (n0 : Nat) (D0 : Nat → Nat × Nat) (s0 : Nat → Int) (p0 : Nat → Nat) (c0 : Nat → Nat → Int) (b_x : 0 ≤ x ∧ x ≤ 65) (hS0 : bS s0) (hF0 : fr s s0 [401, 902, 1208, 1209, 1210, 1211, 1212, 1213, 1214, 1215, 1216, 1601, 1602]) (hC0 : bC D0 c0) (hW0 : wp q g n0 D0 p0 s0) (hP0 : frp p p0 [400]) (hE0 : ext n D n0 D0) (hc_wo : wo s0) (i0 : 7 * s0 401 - s0 1602 ≤ U + 110 * x + 7150 * y), (True) → tt Zi d 32 (139, [some (.inr (.inl 12)), some (.inr (.inl 1)), some (.inl a_), some (.inl y), some (.inl x)], [], n0, D0, s0, p0, c0) Q) :
  ∀ (m : Nat) (x : Int) (n0 : Nat) (D0 : Nat → Nat × Nat) (s0 : Nat → Int) (p0 : Nat → Nat) (c0 : Nat → Nat → Int) (b_x : 0 ≤ x ∧ x ≤ 65) (hS0 : bS s0) (hF0 : fr s s0 [401, 902, 1208, 1209, 1210, 1211, 1212, 1213, 1214, 1215, 1216, 1601, 1602]) (hC0 : bC D0 c0) (hW0 : wp q g n0 D0 p0 s0) (hP0 : frp p p0 [400]) (hE0 : ext n D n0 D0) (hc_wo : wo s0) (i0 : 7 * s0 401 - s0 1602 ≤ U + 110 * x + 7150 * y), (65 - x).toNat < m → tt Zi d 32 (66, [some (.inr (.inl 12)), some (.inr (.inl 1)), some (.inl a_), some (.inl y), some (.inl x)], [], n0, D0, s0, p0, c0) Q := by
  intro m
  induction m with
  | zero => intro x n0 D0 s0 p0 c0 b_x hS0 hF0 hC0 hW0 hP0 hE0 hc_wo i0 hm; exact absurd hm (by omega)
  | succ m ih =>
    intro x n0 D0 s0 p0 c0 b_x hS0 hF0 hC0 hW0 hP0 hE0 hc_wo i0 hm
    have e1 : s0 100 = s 100 := hF0 100 (by decide)
    have b2 : 1 ≤ (s0 100) ∧ (s0 100) ≤ 64 := hS0 100
    have b3 : 1 ≤ (s 100) ∧ (s 100) ≤ 64 := hS 100
    have e4 : s0 101 = s 101 := hF0 101 (by decide)
    have b5 : 1 ≤ (s0 101) ∧ (s0 101) ≤ 64 := hS0 101
    have b6 : 1 ≤ (s 101) ∧ (s 101) ≤ 64 := hS 101
    have e7 : s0 102 = s 102 := hF0 102 (by decide)
    have b8 : 1 ≤ (s0 102) ∧ (s0 102) ≤ 3 := hS0 102
    have b9 : 1 ≤ (s 102) ∧ (s 102) ≤ 3 := hS 102
    have e10 : s0 1206 = s 1206 := hF0 1206 (by decide)
    have b11 : 0 ≤ (s0 1206) ∧ (s0 1206) ≤ 64 := hS0 1206
    have b12 : 0 ≤ (s 1206) ∧ (s 1206) ≤ 64 := hS 1206
    have e13 : s0 1207 = s 1207 := hF0 1207 (by decide)
    have b14 : 0 ≤ (s0 1207) ∧ (s0 1207) ≤ 12288 := hS0 1207
    have b15 : 0 ≤ (s 1207) ∧ (s 1207) ≤ 12288 := hS 1207
    have e16 : s0 801 = s 801 := hF0 801 (by decide)
    have b17 : -2147483648 ≤ (s0 801) ∧ (s0 801) ≤ 2147483647 := hS0 801
    have b18 : -2147483648 ≤ (s 801) ∧ (s 801) ≤ 2147483647 := hS 801
    have b19 : ln D0 (p0 1205) ≤ 12288 := (hW0).s12.2.2
    have el : ln D0 (p0 1205) = ln D (p 1205) := by rw [hP0 1205 (by decide)]; exact ext_ln hE0 (arr_lt hW.s12.1)
    refine tt_k 3 (S' := (72, [some (.inr (.inl 12)), some (.inr (.inl 1)), some (.inl a_), some (.inl y), some (.inl x)], [.inl (s0 1206), .inl x], n0, D0, s0, p0, c0)) rfl ?_
    refine tb_ge (x := x) (y := (s0 1206)) rfl rfl (by omega) (fun h20 => ?_) (fun h20 => ?_)
    · show tt Zi d 32 (139, [some (.inr (.inl 12)), some (.inr (.inl 1)), some (.inl a_), some (.inl y), some (.inl x)], [], n0, D0, s0, p0, c0) _
      exact hK x n0 D0 s0 p0 c0 (by omega) hS0 hF0 hC0 hW0 hP0 hE0 hc_wo (show 7 * (s0 401) - (s0 1602) ≤ U + 110 * x + 7150 * y by omega) trivial
    · show tt Zi d 32 (75, [some (.inr (.inl 12)), some (.inr (.inl 1)), some (.inl a_), some (.inl y), some (.inl x)], [], n0, D0, s0, p0, c0) _
      refine tt_k 2 (S' := (78, [some (.inr (.inl 12)), some (.inr (.inl 1)), some (.inl a_), some (.inl y), some (.inl x)], [.inl x, .inr (.inl 12)], n0, D0, s0, p0, c0)) rfl ?_
      refine tt_cl (by omega) rfl (g_look12 (Zi := Zi) (q := q) (n := n0) (D := D0) (s := s0) (p := p0) (c := c0) (by omega) hz (by omega) hS0 hC0 hW0 x (by omega)) ?_
      rintro _ _ ⟨s21, rfl, rfl, hS21, hW22, f23⟩
      have hc24 : wo s21 := wo_fr f23 (by decide) hc_wo
      show tt Zi d 32 (81, [some (.inr (.inl 12)), some (.inr (.inl 1)), some (.inl a_), some (.inl y), some (.inl x)], [], n0, D0, s21, p0, c0) _
      have e25 : s21 100 = (s0 100) := (f23 100 (by decide))
      have b26 : 1 ≤ (s21 100) ∧ (s21 100) ≤ 64 := hS21 100
      have e27 : s21 101 = (s0 101) := (f23 101 (by decide))
      have b28 : 1 ≤ (s21 101) ∧ (s21 101) ≤ 64 := hS21 101
      have e29 : s21 102 = (s0 102) := (f23 102 (by decide))
      have b30 : 1 ≤ (s21 102) ∧ (s21 102) ≤ 3 := hS21 102
      have e31 : s21 1206 = (s0 1206) := (f23 1206 (by decide))
      have b32 : 0 ≤ (s21 1206) ∧ (s21 1206) ≤ 64 := hS21 1206
      have e33 : s21 1207 = (s0 1207) := (f23 1207 (by decide))
      have b34 : 0 ≤ (s21 1207) ∧ (s21 1207) ≤ 12288 := hS21 1207
      have e35 : s21 801 = (s0 801) := (f23 801 (by decide))
      have b36 : -2147483648 ≤ (s21 801) ∧ (s21 801) ≤ 2147483647 := hS21 801
      have e37 : s21 401 = (s0 401) := (f23 401 (by decide))
      have b38 : 0 ≤ (s21 401) ∧ (s21 401) ≤ 262144 := hS21 401
      have b39 : 0 ≤ (s0 401) ∧ (s0 401) ≤ 262144 := hS0 401
      have e40 : s21 1602 = (s0 1602) := (f23 1602 (by decide))
      have b41 : 1 ≤ (s21 1602) ∧ (s21 1602) ≤ 8 := hS21 1602
      have b42 : 1 ≤ (s0 1602) ∧ (s0 1602) ≤ 8 := hS0 1602
      refine tt_k 2 (S' := (85, [some (.inr (.inl 12)), some (.inr (.inl 1)), some (.inl a_), some (.inl y), some (.inl x)], [.inl (s21 1211)], n0, D0, s21, p0, c0)) rfl ?_
      have b43 : 0 ≤ (s21 1211) ∧ (s21 1211) ≤ 366 := hS21 1211
      refine tz_eq (x := (s21 1211)) rfl rfl (by omega) (fun h44 => ?_) (fun h44 => ?_)
      · show tt Zi d 32 (101, [some (.inr (.inl 12)), some (.inr (.inl 1)), some (.inl a_), some (.inl y), some (.inl x)], [], n0, D0, s21, p0, c0) _
        refine tt_k 3 (S' := (106, [some (.inr (.inl 12)), some (.inr (.inl 1)), some (.inl a_), some (.inl y), some (.inl x)], [.inl x, .inr (.inl 12), .inl x], n0, D0, s21, p0, c0)) rfl ?_
        refine tt_cl (by omega) rfl (g_tellRun12 (Zi := Zi) (q := q) (n := n0) (D := D0) (s := s21) (p := p0) (c := c0) (by omega) hz (by omega) hS21 hC0 hW22 x (by omega) hc24 (show 7 * (s21 401) - (s21 1602) + 300 ≤ 1834990 by omega) (show (s21 1207) + (s21 1206) ≤ (ln D0 (p0 1205) : Int) by omega) (show x < (s21 1206) by omega)) ?_
        rintro _ _ ⟨n45, D46, s47, p48, c49, r50, rfl, rfl, hS47, hC49, hW51, f52, g53, xe54, b55, k56, k57, k58⟩
        show tt Zi d 32 (109, [some (.inr (.inl 12)), some (.inr (.inl 1)), some (.inl a_), some (.inl y), some (.inl x)], [.inl r50, .inl x], n45, D46, s47, p48, c49) _
        replace k57 : x + r50 ≤ (s21 1206) := k57
        replace k58 : 7 * (s47 401) - (s47 1602) ≤ 7 * (s21 401) - (s21 1602) + r50 + 16 := k58
        have b59 : 0 ≤ (s47 401) ∧ (s47 401) ≤ 262144 := hS47 401
        have b60 : 1 ≤ (s47 1602) ∧ (s47 1602) ≤ 8 := hS47 1602
        have e61 : s47 100 = (s21 100) := (f52 100 (by decide))
        have b62 : 1 ≤ (s47 100) ∧ (s47 100) ≤ 64 := hS47 100
        have e63 : s47 101 = (s21 101) := (f52 101 (by decide))
        have b64 : 1 ≤ (s47 101) ∧ (s47 101) ≤ 64 := hS47 101
        have e65 : s47 102 = (s21 102) := (f52 102 (by decide))
        have b66 : 1 ≤ (s47 102) ∧ (s47 102) ≤ 3 := hS47 102
        have e67 : s47 1206 = (s21 1206) := (f52 1206 (by decide))
        have b68 : 0 ≤ (s47 1206) ∧ (s47 1206) ≤ 64 := hS47 1206
        have e69 : s47 1207 = (s21 1207) := (f52 1207 (by decide))
        have b70 : 0 ≤ (s47 1207) ∧ (s47 1207) ≤ 12288 := hS47 1207
        have e71 : s47 801 = (s21 801) := (f52 801 (by decide))
        have b72 : -2147483648 ≤ (s47 801) ∧ (s47 801) ≤ 2147483647 := hS47 801
        have e73 : ln D46 (p48 1205) = ln D0 (p0 1205) := (congrArg (ln D46) (g53 1205 (by decide))).trans (ext_ln xe54 (arr_lt (hW22).s12.1))
        refine tt_k 5 (S' := (118, [some (.inr (.inl 12)), some (.inr (.inl 1)), some (.inl a_), some (.inl y), some (.inl (x + r50))], [.inl (s47 1206), .inl (x + r50)], n45, D46, s47, p48, c49)) rfl ?_
        refine tb_ge (x := (x + r50)) (y := (s47 1206)) rfl rfl (by omega) (fun h74 => ?_) (fun h74 => ?_)
        · show tt Zi d 32 (133, [some (.inr (.inl 12)), some (.inr (.inl 1)), some (.inl a_), some (.inl y), some (.inl (x + r50))], [], n45, D46, s47, p48, c49) _
          refine tt_k 2 (S' := (66, [some (.inr (.inl 12)), some (.inr (.inl 1)), some (.inl a_), some (.inl y), some (.inl ((x + r50) + 1))], [], n45, D46, s47, p48, c49)) rfl ?_
          exact ih ((x + r50) + 1) n45 D46 s47 p48 c49 (by omega) hS47 (fr_tr (fr_tr hF0 f23 (by decide)) f52 (by decide)) hC49 hW51 (frp_tr hP0 g53 (by decide)) (ext_tr hE0 xe54) k56 (show 7 * (s47 401) - (s47 1602) ≤ U + 110 * ((x + r50) + 1) + 7150 * y by omega) (show (65 - ((x + r50) + 1)).toNat < m by omega)
        · show tt Zi d 32 (121, [some (.inr (.inl 12)), some (.inr (.inl 1)), some (.inl a_), some (.inl y), some (.inl (x + r50))], [], n45, D46, s47, p48, c49) _
          refine tt_k 2 (S' := (124, [some (.inr (.inl 12)), some (.inr (.inl 1)), some (.inl a_), some (.inl y), some (.inl (x + r50))], [.inl (x + r50), .inr (.inl 12)], n45, D46, s47, p48, c49)) rfl ?_
          refine tt_cl (by omega) rfl (g_aimStop12 (Zi := Zi) (q := q) (n := n45) (D := D46) (s := s47) (p := p48) (c := c49) (by omega) hz (by omega) hS47 hC49 hW51 (x + r50) (by omega)) ?_
          rintro _ _ ⟨s75, rfl, rfl, hS75, hW76, f77⟩
          have hc78 : wo s75 := wo_fr f77 (by decide) k56
          show tt Zi d 32 (127, [some (.inr (.inl 12)), some (.inr (.inl 1)), some (.inl a_), some (.inl y), some (.inl (x + r50))], [], n45, D46, s75, p48, c49) _
          have e79 : s75 100 = (s47 100) := (f77 100 (by decide))
          have b80 : 1 ≤ (s75 100) ∧ (s75 100) ≤ 64 := hS75 100
          have e81 : s75 101 = (s47 101) := (f77 101 (by decide))
          have b82 : 1 ≤ (s75 101) ∧ (s75 101) ≤ 64 := hS75 101
          have e83 : s75 102 = (s47 102) := (f77 102 (by decide))
          have b84 : 1 ≤ (s75 102) ∧ (s75 102) ≤ 3 := hS75 102
          have e85 : s75 1206 = (s47 1206) := (f77 1206 (by decide))
          have b86 : 0 ≤ (s75 1206) ∧ (s75 1206) ≤ 64 := hS75 1206
          have e87 : s75 1207 = (s47 1207) := (f77 1207 (by decide))
          have b88 : 0 ≤ (s75 1207) ∧ (s75 1207) ≤ 12288 := hS75 1207
          have e89 : s75 801 = (s47 801) := (f77 801 (by decide))
          have b90 : -2147483648 ≤ (s75 801) ∧ (s75 801) ≤ 2147483647 := hS75 801
          have e91 : s75 401 = (s47 401) := (f77 401 (by decide))
          have b92 : 0 ≤ (s75 401) ∧ (s75 401) ≤ 262144 := hS75 401
          have e93 : s75 1602 = (s47 1602) := (f77 1602 (by decide))
          have b94 : 1 ≤ (s75 1602) ∧ (s75 1602) ≤ 8 := hS75 1602
          refine tt_k 2 (S' := (130, [some (.inr (.inl 12)), some (.inr (.inl 1)), some (.inl a_), some (.inl y), some (.inl (x + r50))], [.inl (x + r50), .inr (.inl 12)], n45, D46, s75, p48, c49)) rfl ?_
          refine tt_cl (by omega) rfl (g_tellStop12 (Zi := Zi) (q := q) (n := n45) (D := D46) (s := s75) (p := p48) (c := c49) (by omega) hz (by omega) hS75 hC49 hW76 (x + r50) (by omega) hc78 (show 7 * (s75 401) - (s75 1602) + 300 ≤ 1834990 by omega) (show (s75 1207) + (x + r50) < (ln D46 (p48 1205) : Int) by omega) (show 0 ≤ (s75 801) ∧ (s75 801) ≤ 255 by omega)) ?_
          rintro _ _ ⟨n95, D96, s97, p98, c99, rfl, rfl, hS97, hC99, hW100, f101, g102, xe103, k104, k105⟩
          show tt Zi d 32 (133, [some (.inr (.inl 12)), some (.inr (.inl 1)), some (.inl a_), some (.inl y), some (.inl (x + r50))], [], n95, D96, s97, p98, c99) _
          replace k105 : 7 * (s97 401) - (s97 1602) ≤ 7 * (s75 401) - (s75 1602) + 94 := k105
          have b106 : 0 ≤ (s97 401) ∧ (s97 401) ≤ 262144 := hS97 401
          have b107 : 1 ≤ (s97 1602) ∧ (s97 1602) ≤ 8 := hS97 1602
          have e108 : s97 100 = (s75 100) := (f101 100 (by decide))
          have b109 : 1 ≤ (s97 100) ∧ (s97 100) ≤ 64 := hS97 100
          have e110 : s97 101 = (s75 101) := (f101 101 (by decide))
          have b111 : 1 ≤ (s97 101) ∧ (s97 101) ≤ 64 := hS97 101
          have e112 : s97 102 = (s75 102) := (f101 102 (by decide))
          have b113 : 1 ≤ (s97 102) ∧ (s97 102) ≤ 3 := hS97 102
          have e114 : s97 1206 = (s75 1206) := (f101 1206 (by decide))
          have b115 : 0 ≤ (s97 1206) ∧ (s97 1206) ≤ 64 := hS97 1206
          have e116 : s97 1207 = (s75 1207) := (f101 1207 (by decide))
          have b117 : 0 ≤ (s97 1207) ∧ (s97 1207) ≤ 12288 := hS97 1207
          have e118 : s97 801 = (s75 801) := (f101 801 (by decide))
          have b119 : -2147483648 ≤ (s97 801) ∧ (s97 801) ≤ 2147483647 := hS97 801
          have e120 : ln D96 (p98 1205) = ln D46 (p48 1205) := (congrArg (ln D96) (g102 1205 (by decide))).trans (ext_ln xe103 (arr_lt (hW76).s12.1))
          refine tt_k 2 (S' := (66, [some (.inr (.inl 12)), some (.inr (.inl 1)), some (.inl a_), some (.inl y), some (.inl ((x + r50) + 1))], [], n95, D96, s97, p98, c99)) rfl ?_
          exact ih ((x + r50) + 1) n95 D96 s97 p98 c99 (by omega) hS97 (fr_tr (fr_tr (fr_tr (fr_tr hF0 f23 (by decide)) f52 (by decide)) f77 (by decide)) f101 (by decide)) hC99 hW100 (frp_tr (frp_tr hP0 g53 (by decide)) g102 (by decide)) (ext_tr (ext_tr hE0 xe54) xe103) k104 (show 7 * (s97 401) - (s97 1602) ≤ U + 110 * ((x + r50) + 1) + 7150 * y by omega) (show (65 - ((x + r50) + 1)).toNat < m by omega)
      · show tt Zi d 32 (88, [some (.inr (.inl 12)), some (.inr (.inl 1)), some (.inl a_), some (.inl y), some (.inl x)], [], n0, D0, s21, p0, c0) _
        refine tt_k 1 (S' := (89, [some (.inr (.inl 12)), some (.inr (.inl 1)), some (.inl a_), some (.inl y), some (.inl x)], [.inr (.inl 12)], n0, D0, s21, p0, c0)) rfl ?_
        refine tt_cl (by omega) rfl (g_aim12 (Zi := Zi) (q := q) (n := n0) (D := D0) (s := s21) (p := p0) (c := c0) (by omega) hz (by omega) hS21 hC0 hW22 ) ?_
        rintro _ _ ⟨s121, rfl, rfl, hS121, hW122, f123⟩
        have hc124 : wo s121 := wo_fr f123 (by decide) hc24
        show tt Zi d 32 (92, [some (.inr (.inl 12)), some (.inr (.inl 1)), some (.inl a_), some (.inl y), some (.inl x)], [], n0, D0, s121, p0, c0) _
        have e125 : s121 100 = (s21 100) := (f123 100 (by decide))
        have b126 : 1 ≤ (s121 100) ∧ (s121 100) ≤ 64 := hS121 100
        have e127 : s121 101 = (s21 101) := (f123 101 (by decide))
        have b128 : 1 ≤ (s121 101) ∧ (s121 101) ≤ 64 := hS121 101
        have e129 : s121 102 = (s21 102) := (f123 102 (by decide))
        have b130 : 1 ≤ (s121 102) ∧ (s121 102) ≤ 3 := hS121 102
        have e131 : s121 1206 = (s21 1206) := (f123 1206 (by decide))
        have b132 : 0 ≤ (s121 1206) ∧ (s121 1206) ≤ 64 := hS121 1206
        have e133 : s121 1207 = (s21 1207) := (f123 1207 (by decide))
        have b134 : 0 ≤ (s121 1207) ∧ (s121 1207) ≤ 12288 := hS121 1207
        have e135 : s121 801 = (s21 801) := (f123 801 (by decide))
        have b136 : -2147483648 ≤ (s121 801) ∧ (s121 801) ≤ 2147483647 := hS121 801
        have e137 : s121 401 = (s21 401) := (f123 401 (by decide))
        have b138 : 0 ≤ (s121 401) ∧ (s121 401) ≤ 262144 := hS121 401
        have e139 : s121 1602 = (s21 1602) := (f123 1602 (by decide))
        have b140 : 1 ≤ (s121 1602) ∧ (s121 1602) ≤ 8 := hS121 1602
        refine tt_k 2 (S' := (95, [some (.inr (.inl 12)), some (.inr (.inl 1)), some (.inl a_), some (.inl y), some (.inl x)], [.inl x, .inr (.inl 12)], n0, D0, s121, p0, c0)) rfl ?_
        refine tt_cl (by omega) rfl (g_tellSample12 (Zi := Zi) (q := q) (n := n0) (D := D0) (s := s121) (p := p0) (c := c0) (by omega) hz (by omega) hS121 hC0 hW122 x (by omega) hc124 (show 7 * (s121 401) - (s121 1602) + 300 ≤ 1834990 by omega) (show (s121 1207) + x < (ln D0 (p0 1205) : Int) by omega) (show 0 ≤ (s121 801) ∧ (s121 801) ≤ 255 by omega)) ?_
        rintro _ _ ⟨n141, D142, s143, p144, c145, rfl, rfl, hS143, hC145, hW146, f147, g148, xe149, k150, k151⟩
        show tt Zi d 32 (98, [some (.inr (.inl 12)), some (.inr (.inl 1)), some (.inl a_), some (.inl y), some (.inl x)], [], n141, D142, s143, p144, c145) _
        replace k151 : 7 * (s143 401) - (s143 1602) ≤ 7 * (s121 401) - (s121 1602) + 94 := k151
        have b152 : 0 ≤ (s143 401) ∧ (s143 401) ≤ 262144 := hS143 401
        have b153 : 1 ≤ (s143 1602) ∧ (s143 1602) ≤ 8 := hS143 1602
        have e154 : s143 100 = (s121 100) := (f147 100 (by decide))
        have b155 : 1 ≤ (s143 100) ∧ (s143 100) ≤ 64 := hS143 100
        have e156 : s143 101 = (s121 101) := (f147 101 (by decide))
        have b157 : 1 ≤ (s143 101) ∧ (s143 101) ≤ 64 := hS143 101
        have e158 : s143 102 = (s121 102) := (f147 102 (by decide))
        have b159 : 1 ≤ (s143 102) ∧ (s143 102) ≤ 3 := hS143 102
        have e160 : s143 1206 = (s121 1206) := (f147 1206 (by decide))
        have b161 : 0 ≤ (s143 1206) ∧ (s143 1206) ≤ 64 := hS143 1206
        have e162 : s143 1207 = (s121 1207) := (f147 1207 (by decide))
        have b163 : 0 ≤ (s143 1207) ∧ (s143 1207) ≤ 12288 := hS143 1207
        have e164 : s143 801 = (s121 801) := (f147 801 (by decide))
        have b165 : -2147483648 ≤ (s143 801) ∧ (s143 801) ≤ 2147483647 := hS143 801
        have e166 : ln D142 (p144 1205) = ln D0 (p0 1205) := (congrArg (ln D142) (g148 1205 (by decide))).trans (ext_ln xe149 (arr_lt (hW122).s12.1))
        refine tt_k 3 (S' := (66, [some (.inr (.inl 12)), some (.inr (.inl 1)), some (.inl a_), some (.inl y), some (.inl (x + 1))], [], n141, D142, s143, p144, c145)) rfl ?_
        exact ih (x + 1) n141 D142 s143 p144 c145 (by omega) hS143 (fr_tr (fr_tr (fr_tr hF0 f23 (by decide)) f123 (by decide)) f147 (by decide)) hC145 hW146 (frp_tr hP0 g148 (by decide)) (ext_tr hE0 xe149) k150 (show 7 * (s143 401) - (s143 1602) ≤ U + 110 * (x + 1) + 7150 * y by omega) (show (65 - (x + 1)).toNat < m by omega)

set_option maxRecDepth 100000 in
set_option maxHeartbeats 4000000 in
theorem g_tellPlane12_1_L40 {g : Nat → Int} {Zi : Nat → Option (Nat × (Nat → Int))} {d n q : Nat} {D : Nat → Nat × Nat} {s : Nat → Int} {p : Nat → Nat} {c : Nat → Nat → Int}  {Q : mi_Rs → mi_H → Prop} (hd : 5 ≤ d) (hz : zk Zi) (hq : q + 10 ≤ 400001) (hS : bS s) (hC : bC D c) (hW : wp q g n D p s) (U : Int) (a_ : Int) (b_a_ : 0 ≤ a_ ∧ a_ ≤ 2) (hq0 : s 100 * s 101 * s 102 ≤ (ln D (p 1205) : Int)) (hq1 : s 1206 = s 100) (hq2 : a_ < s 102 ∧ 1 ≤ s 100) (hq3 : 0 ≤ s 801 ∧ s 801 ≤ 255) (hq4 : U + 457600 ≤ 1834000)
  (hK : ∀ (y : Int) (o_4 : Option mi_V) (n0 : Nat) (D0 : Nat → Nat × Nat) (s0 : Nat → Int) (p0 : Nat → Nat) (c0 : Nat → Nat → Int) (b_y : 0 ≤ y ∧ y ≤ 64) (hS0 : bS s0) (hF0 : fr s s0 [401, 902, 1207, 1208, 1209, 1210, 1211, 1212, 1213, 1214, 1215, 1216, 1601, 1602]) (hC0 : bC D0 c0) (hW0 : wp q g n0 D0 p0 s0) (hP0 : frp p p0 [400, 1203, 1204]) (hE0 : ext n D n0 D0) (hc_wo : wo s0) (i0 : y ≤ s 101) (i1 : 7 * s0 401 - s0 1602 ≤ U + 110 * 0 + 7150 * y), (True) → tt Zi d 32 (149, [some (.inr (.inl 12)), some (.inr (.inl 1)), some (.inl a_), some (.inl y), o_4], [], n0, D0, s0, p0, c0) Q) :
  ∀ (m : Nat) (y : Int) (o_4 : Option mi_V) (n0 : Nat) (D0 : Nat → Nat × Nat) (s0 : Nat → Int) (p0 : Nat → Nat) (c0 : Nat → Nat → Int) (b_y : 0 ≤ y ∧ y ≤ 64) (hS0 : bS s0) (hF0 : fr s s0 [401, 902, 1207, 1208, 1209, 1210, 1211, 1212, 1213, 1214, 1215, 1216, 1601, 1602]) (hC0 : bC D0 c0) (hW0 : wp q g n0 D0 p0 s0) (hP0 : frp p p0 [400, 1203, 1204]) (hE0 : ext n D n0 D0) (hc_wo : wo s0) (i0 : y ≤ s 101) (i1 : 7 * s0 401 - s0 1602 ≤ U + 110 * 0 + 7150 * y), (s 101 - y).toNat < m → tt Zi d 32 (40, [some (.inr (.inl 12)), some (.inr (.inl 1)), some (.inl a_), some (.inl y), o_4], [], n0, D0, s0, p0, c0) Q := by
  intro m
  induction m with
  | zero => intro y o_4 n0 D0 s0 p0 c0 b_y hS0 hF0 hC0 hW0 hP0 hE0 hc_wo i0 i1 hm; exact absurd hm (by omega)
  | succ m ih =>
    intro y o_4 n0 D0 s0 p0 c0 b_y hS0 hF0 hC0 hW0 hP0 hE0 hc_wo i0 i1 hm
    have e1 : s0 100 = s 100 := hF0 100 (by decide)
    have b2 : 1 ≤ (s0 100) ∧ (s0 100) ≤ 64 := hS0 100
    have b3 : 1 ≤ (s 100) ∧ (s 100) ≤ 64 := hS 100
    have e4 : s0 101 = s 101 := hF0 101 (by decide)
    have b5 : 1 ≤ (s0 101) ∧ (s0 101) ≤ 64 := hS0 101
    have b6 : 1 ≤ (s 101) ∧ (s 101) ≤ 64 := hS 101
    have e7 : s0 102 = s 102 := hF0 102 (by decide)
    have b8 : 1 ≤ (s0 102) ∧ (s0 102) ≤ 3 := hS0 102
    have b9 : 1 ≤ (s 102) ∧ (s 102) ≤ 3 := hS 102
    have e10 : s0 1206 = s 1206 := hF0 1206 (by decide)
    have b11 : 0 ≤ (s0 1206) ∧ (s0 1206) ≤ 64 := hS0 1206
    have b12 : 0 ≤ (s 1206) ∧ (s 1206) ≤ 64 := hS 1206
    have e13 : s0 801 = s 801 := hF0 801 (by decide)
    have b14 : -2147483648 ≤ (s0 801) ∧ (s0 801) ≤ 2147483647 := hS0 801
    have b15 : -2147483648 ≤ (s 801) ∧ (s 801) ≤ 2147483647 := hS 801
    have b16 : ln D0 (p0 1205) ≤ 12288 := (hW0).s12.2.2
    have el : ln D0 (p0 1205) = ln D (p 1205) := by rw [hP0 1205 (by decide)]; exact ext_ln hE0 (arr_lt hW.s12.1)
    refine tt_k 3 (S' := (45, [some (.inr (.inl 12)), some (.inr (.inl 1)), some (.inl a_), some (.inl y), o_4], [.inl (s0 101), .inl y], n0, D0, s0, p0, c0)) rfl ?_
    refine tb_ge (x := y) (y := (s0 101)) rfl rfl (by omega) (fun h17 => ?_) (fun h17 => ?_)
    · show tt Zi d 32 (149, [some (.inr (.inl 12)), some (.inr (.inl 1)), some (.inl a_), some (.inl y), o_4], [], n0, D0, s0, p0, c0) _
      exact hK y (o_4) n0 D0 s0 p0 c0 (by omega) hS0 hF0 hC0 hW0 hP0 hE0 hc_wo (show y ≤ s 101 by omega) (show 7 * (s0 401) - (s0 1602) ≤ U + 110 * 0 + 7150 * y by omega) trivial
    · show tt Zi d 32 (48, [some (.inr (.inl 12)), some (.inr (.inl 1)), some (.inl a_), some (.inl y), o_4], [], n0, D0, s0, p0, c0) _
      refine tt_k 5 (S' := (53, [some (.inr (.inl 12)), some (.inr (.inl 1)), some (.inl a_), some (.inl y), o_4], [.inl y, .inl 0, .inl a_, .inr (.inl 1), .inr (.inl 12)], n0, D0, s0, p0, c0)) rfl ?_
      refine tt_cl (by omega) rfl (g_index1 (Zi := Zi) (q := q) (n := n0) (D := D0) (s := s0) (p := p0) (c := c0) (by omega) hz (by omega) hS0 hC0 hW0 a_ 0 y (by omega) (by omega) (by omega) (show a_ < (s0 102) ∧ 0 < (s0 100) ∧ y < (s0 101) by omega)) ?_
      rintro _ _ ⟨r18, rfl, rfl, b19, k20, k21⟩
      show tt Zi d 32 (56, [some (.inr (.inl 12)), some (.inr (.inl 1)), some (.inl a_), some (.inl y), o_4], [.inl r18, .inr (.inl 12)], n0, D0, s0, p0, c0) _
      replace k20 : r18 = (a_ * (s0 101) + y) * (s0 100) + 0 := k20
      replace k21 : r18 + (s0 100) - 0 ≤ (s0 100) * (s0 101) * (s0 102) := k21
      have hmm : (s0 100) * (s0 101) * (s0 102) = s 100 * s 101 * s 102 := by rw [show (s0 100) = s 100 by omega, show (s0 101) = s 101 by omega, show (s0 102) = s 102 by omega]
      refine tt_k 2 (S' := (60, [some (.inr (.inl 12)), some (.inr (.inl 1)), some (.inl a_), some (.inl y), o_4], [.inr (.inl 12)], n0, D0, (us s0 1207 r18), p0, c0)) rfl ?_
      refine tt_cl (by omega) rfl (g_openRow12 (Zi := Zi) (q := q) (n := n0) (D := D0) (s := (us s0 1207 r18)) (p := p0) (c := c0) (by omega) hz (by omega) (bS_us hS0 (show 0 ≤ r18 ∧ r18 ≤ 12288 by omega)) hC0 (wp_us (by decide) hW0) ) ?_
      rintro _ _ ⟨p22, c23, rfl, rfl, hC23, hW24, g25⟩
      show tt Zi d 32 (63, [some (.inr (.inl 12)), some (.inr (.inl 1)), some (.inl a_), some (.inl y), o_4], [], n0, D0, (us s0 1207 r18), p22, c23) _
      have e26 : ln D0 (p22 1205) = ln D0 (p0 1205) := (congrArg (ln D0) (g25 1205 (by decide)))
      refine tt_k 2 (S' := (66, [some (.inr (.inl 12)), some (.inr (.inl 1)), some (.inl a_), some (.inl y), some (.inl 0)], [], n0, D0, (us s0 1207 r18), p22, c23)) rfl ?_
      refine g_tellPlane12_1_L66 (Zi := Zi) (q := q) (n := n0) (D := D0) (s := (us s0 1207 r18)) (p := p22) (c := c23) hd hz (by omega) (bS_us hS0 (show 0 ≤ r18 ∧ r18 ≤ 12288 by omega)) hC23 hW24 U a_ y (by omega) (by omega) (show r18 + (s0 1206) ≤ (ln D0 (p22 1205) : Int) by omega) (show 0 ≤ (s0 801) ∧ (s0 801) ≤ 255 by omega) (show U + 457600 ≤ 1834000 by omega)  ?_ _ 0 n0 D0 (us s0 1207 r18) p22 c23 (by omega) (bS_us hS0 (show 0 ≤ r18 ∧ r18 ≤ 12288 by omega)) fr_rf hC23 hW24 frp_rf ext_rf (wo_us (by decide) hc_wo) (show 7 * (s0 401) - (s0 1602) ≤ U + 110 * 0 + 7150 * y by omega) (Nat.lt_succ_self _)
      intro x27 n28 D29 s30 p31 c32 b33 hS30 f34 hC32 hW35 g36 xe37 hc38 i39 hx40
      show tt Zi d 32 (139, [some (.inr (.inl 12)), some (.inr (.inl 1)), some (.inl a_), some (.inl y), some (.inl x27)], [], n28, D29, s30, p31, c32) _
      replace i39 : 7 * (s30 401) - (s30 1602) ≤ U + 110 * x27 + 7150 * y := i39
      have b41 : 0 ≤ (s30 401) ∧ (s30 401) ≤ 262144 := hS30 401
      have b42 : 1 ≤ (s30 1602) ∧ (s30 1602) ≤ 8 := hS30 1602
      have e43 : s30 100 = (s0 100) := (f34 100 (by decide))
      have b44 : 1 ≤ (s30 100) ∧ (s30 100) ≤ 64 := hS30 100
      have e45 : s30 101 = (s0 101) := (f34 101 (by decide))
      have b46 : 1 ≤ (s30 101) ∧ (s30 101) ≤ 64 := hS30 101
      have e47 : s30 102 = (s0 102) := (f34 102 (by decide))
      have b48 : 1 ≤ (s30 102) ∧ (s30 102) ≤ 3 := hS30 102
      have e49 : s30 1206 = (s0 1206) := (f34 1206 (by decide))
      have b50 : 0 ≤ (s30 1206) ∧ (s30 1206) ≤ 64 := hS30 1206
      have e51 : s30 1207 = r18 := (f34 1207 (by decide))
      have b52 : 0 ≤ (s30 1207) ∧ (s30 1207) ≤ 12288 := hS30 1207
      have e53 : s30 801 = (s0 801) := (f34 801 (by decide))
      have b54 : -2147483648 ≤ (s30 801) ∧ (s30 801) ≤ 2147483647 := hS30 801
      have e55 : ln D29 (p31 1205) = ln D0 (p22 1205) := (congrArg (ln D29) (g36 1205 (by decide))).trans (ext_ln xe37 (arr_lt (hW24).s12.1))
      refine tt_k 1 (S' := (140, [some (.inr (.inl 12)), some (.inr (.inl 1)), some (.inl a_), some (.inl y), some (.inl x27)], [.inr (.inl 12)], n28, D29, s30, p31, c32)) rfl ?_
      refine tt_cl (by omega) rfl (g_closeRow12 (Zi := Zi) (q := q) (n := n28) (D := D29) (s := s30) (p := p31) (c := c32) (by omega) hz (by omega) hS30 hC32 hW35 ) ?_
      rintro _ _ ⟨rfl, rfl⟩
      show tt Zi d 32 (143, [some (.inr (.inl 12)), some (.inr (.inl 1)), some (.inl a_), some (.inl y), some (.inl x27)], [], n28, D29, s30, p31, c32) _
      refine tt_k 2 (S' := (40, [some (.inr (.inl 12)), some (.inr (.inl 1)), some (.inl a_), some (.inl (y + 1)), some (.inl x27)], [], n28, D29, s30, p31, c32)) rfl ?_
      exact ih (y + 1) (some (.inl x27)) n28 D29 s30 p31 c32 (by omega) hS30 (fr_tr (fr_us (by decide) hF0) f34 (by decide)) hC32 hW35 (frp_tr (frp_tr hP0 g25 (by decide)) g36 (by decide)) (ext_tr hE0 xe37) hc38 (show (y + 1) ≤ s 101 by omega) (show 7 * (s30 401) - (s30 1602) ≤ U + 110 * 0 + 7150 * (y + 1) by omega) (show (s 101 - (y + 1)).toNat < m by omega)
set_option maxRecDepth 100000 in
set_option maxHeartbeats 4000000 in
theorem g_tellPlane12_1 {g : Nat → Int} {Zi : Nat → Option (Nat × (Nat → Int))} {d n q : Nat} {D : Nat → Nat × Nat} {s : Nat → Int} {p : Nat → Nat} {c : Nat → Nat → Int} (hd : 5 ≤ d) (hz : zk Zi) (hq : q + 10 ≤ 400000) (hS : bS s) (hC : bC D c) (hW : wp q g n D p s) (a_ : Int) (b_a_ : 0 ≤ a_ ∧ a_ ≤ 2) (hp0 : wo s) (hp1 : 0 ≤ s 801 ∧ s 801 ≤ 255) (hp2 : 7 * s 401 - s 1602 + 500000 ≤ 1834990) (hp3 : a_ < s 102 ∧ 1 ≤ s 100) : tt Zi d 32 (0, [some (.inr (.inl 12)), some (.inr (.inl 1)), some (.inl a_), none, none], [], n, D, s, p, c) (fun R H => ∃ (n' : Nat) (D' : Nat → Nat × Nat) (s' : Nat → Int) (p' : Nat → Nat) (c' : Nat → Nat → Int), R = .inl none ∧ H = (n', D', s', p', c') ∧ bS s' ∧ bC D' c' ∧ wp q g n' D' p' s' ∧ fr s s' [401, 902, 1206, 1207, 1208, 1209, 1210, 1211, 1212, 1213, 1214, 1215, 1216, 1601, 1602] ∧ frp p p' [400, 900, 901, 1203, 1204, 1205] ∧ ext n D n' D' ∧ (wo s') ∧ (7 * s' 401 - s' 1602 ≤ 7 * s 401 - s 1602 + 457600)) := by
  have b1 : 1 ≤ (s 100) ∧ (s 100) ≤ 64 := hS 100
  have b2 : 1 ≤ (s 101) ∧ (s 101) ≤ 64 := hS 101
  have b3 : 1 ≤ (s 102) ∧ (s 102) ≤ 3 := hS 102
  refine tt_k 13 (S' := (27, [some (.inr (.inl 12)), some (.inr (.inl 1)), some (.inl a_), none, none], [.inl (s 807), .inr (.inl 9)], n, D, (us s 1206 (s 100)), (up p 1205 (p 104)), c)) rfl ?_
  have b4 : 0 ≤ (s 807) ∧ (s 807) ≤ 65536 := hS 807
  refine tt_cl (by omega) rfl (g_begin (Zi := Zi) (q := q) (n := n) (D := D) (s := (us s 1206 (s 100))) (p := (up p 1205 (p 104))) (c := c) (by omega) hz (by omega) (bS_us hS (show 0 ≤ (s 100) ∧ (s 100) ≤ 64 by omega)) hC (wp_us (by decide) (wp_sa12_1 hW)) (s 807) (by omega)) ?_
  rintro _ _ ⟨s5, c6, rfl, rfl, hS5, hC6, hW7, f8⟩
  have hc9 : wo s5 := wo_fr f8 (by decide) (wo_us (by decide) hp0)
  show tt Zi d 32 (30, [some (.inr (.inl 12)), some (.inr (.inl 1)), some (.inl a_), none, none], [], n, D, s5, (up p 1205 (p 104)), c6) _
  have e10 : s5 100 = (s 100) := (f8 100 (by decide))
  have b11 : 1 ≤ (s5 100) ∧ (s5 100) ≤ 64 := hS5 100
  have e12 : s5 101 = (s 101) := (f8 101 (by decide))
  have b13 : 1 ≤ (s5 101) ∧ (s5 101) ≤ 64 := hS5 101
  have e14 : s5 102 = (s 102) := (f8 102 (by decide))
  have b15 : 1 ≤ (s5 102) ∧ (s5 102) ≤ 3 := hS5 102
  have e16 : s5 1206 = (s 100) := (f8 1206 (by decide))
  have b17 : 0 ≤ (s5 1206) ∧ (s5 1206) ≤ 64 := hS5 1206
  have e18 : s5 1207 = (s 1207) := (f8 1207 (by decide))
  have b19 : 0 ≤ (s5 1207) ∧ (s5 1207) ≤ 12288 := hS5 1207
  have b20 : 0 ≤ (s 1207) ∧ (s 1207) ≤ 12288 := hS 1207
  have e21 : s5 801 = (s 801) := (f8 801 (by decide))
  have b22 : -2147483648 ≤ (s5 801) ∧ (s5 801) ≤ 2147483647 := hS5 801
  have b23 : -2147483648 ≤ (s 801) ∧ (s 801) ≤ 2147483647 := hS 801
  have e24 : s5 401 = (s 401) := (f8 401 (by decide))
  have b25 : 0 ≤ (s5 401) ∧ (s5 401) ≤ 262144 := hS5 401
  have b26 : 0 ≤ (s 401) ∧ (s 401) ≤ 262144 := hS 401
  have e27 : s5 1602 = (s 1602) := (f8 1602 (by decide))
  have b28 : 1 ≤ (s5 1602) ∧ (s5 1602) ≤ 8 := hS5 1602
  have b29 : 1 ≤ (s 1602) ∧ (s 1602) ≤ 8 := hS 1602
  refine tt_k 3 (S' := (35, [some (.inr (.inl 12)), some (.inr (.inl 1)), some (.inl a_), none, none], [.inl 0, .inr (.inl (p 1204))], n, D, s5, (up p 1205 (p 104)), c6)) rfl ?_
  refine tt_cl (by omega) rfl (g_fill (A := (p 1204)) (m := 66) (s := s5) (p := (up p 1205 (p 104))) ((sw_arr (hW7).a12 rfl rfl).2) (by omega) (by rw [(show bC_lo D (p 1204) = 0 ∧ bC_hi D (p 1204) = 65535 from ((sw_12 (hW7).a12).2)).1, (show bC_lo D (p 1204) = 0 ∧ bC_hi D (p 1204) = 65535 from ((sw_12 (hW7).a12).2)).2]; decide) hC6) ?_
  rintro _ _ ⟨c30, rfl, rfl, hC30⟩
  show tt Zi d 32 (38, [some (.inr (.inl 12)), some (.inr (.inl 1)), some (.inl a_), none, none], [], n, D, s5, (up p 1205 (p 104)), c30) _
  refine tt_k 2 (S' := (40, [some (.inr (.inl 12)), some (.inr (.inl 1)), some (.inl a_), some (.inl 0), none], [], n, D, s5, (up p 1205 (p 104)), c30)) rfl ?_
  refine g_tellPlane12_1_L40 (Zi := Zi) (q := q) (n := n) (D := D) (s := s5) (p := (up p 1205 (p 104))) (c := c30) hd hz (by omega) hS5 hC30 hW7 (7 * s 401 - s 1602) a_ (by omega) (show _ from (hW7).w1) (show (s5 1206) = (s5 100) by omega) (show a_ < (s5 102) ∧ 1 ≤ (s5 100) by omega) (show 0 ≤ (s5 801) ∧ (s5 801) ≤ 255 by omega) (show (7 * s 401 - s 1602) + 457600 ≤ 1834000 by omega)  ?_ _ 0 (none) n D s5 (up p 1205 (p 104)) c30 (by omega) hS5 fr_rf hC30 hW7 frp_rf ext_rf hc9 (show 0 ≤ (s5 101) by omega) (show 7 * (s5 401) - (s5 1602) ≤ (7 * s 401 - s 1602) + 110 * 0 + 7150 * 0 by omega) (Nat.lt_succ_self _)
  intro x31 x32 n33 D34 s35 p36 c37 b38 hS35 f39 hC37 hW40 g41 xe42 hc43 i44 i45 hx46
  show tt Zi d 32 (149, [some (.inr (.inl 12)), some (.inr (.inl 1)), some (.inl a_), some (.inl x31), x32], [], n33, D34, s35, p36, c37) _
  replace i44 : x31 ≤ (s5 101) := i44
  replace i45 : 7 * (s35 401) - (s35 1602) ≤ (7 * s 401 - s 1602) + 110 * 0 + 7150 * x31 := i45
  have b47 : 0 ≤ (s35 401) ∧ (s35 401) ≤ 262144 := hS35 401
  have b48 : 1 ≤ (s35 1602) ∧ (s35 1602) ≤ 8 := hS35 1602
  have e49 : s35 100 = (s5 100) := (f39 100 (by decide))
  have b50 : 1 ≤ (s35 100) ∧ (s35 100) ≤ 64 := hS35 100
  have e51 : s35 101 = (s5 101) := (f39 101 (by decide))
  have b52 : 1 ≤ (s35 101) ∧ (s35 101) ≤ 64 := hS35 101
  have e53 : s35 102 = (s5 102) := (f39 102 (by decide))
  have b54 : 1 ≤ (s35 102) ∧ (s35 102) ≤ 3 := hS35 102
  have e55 : s35 1206 = (s5 1206) := (f39 1206 (by decide))
  have b56 : 0 ≤ (s35 1206) ∧ (s35 1206) ≤ 64 := hS35 1206
  have e57 : s35 801 = (s5 801) := (f39 801 (by decide))
  have b58 : -2147483648 ≤ (s35 801) ∧ (s35 801) ≤ 2147483647 := hS35 801
  have e59 : ln D34 (p36 1205) = ln D (p 104) := (congrArg (ln D34) (g41 1205 (by decide))).trans (ext_ln xe42 (arr_lt (hW7).s12.1))
  refine tt_k 2 (S' := (153, [some (.inr (.inl 12)), some (.inr (.inl 1)), some (.inl a_), some (.inl x31), x32], [.inr (.inl 9)], n33, D34, s35, p36, c37)) rfl ?_
  refine tt_cl (by omega) rfl (g_keep (Zi := Zi) (q := q) (n := n33) (D := D34) (s := s35) (p := p36) (c := c37) (by omega) hz (by omega) hS35 hC37 hW40 ) ?_
  rintro _ _ ⟨p60, rfl, rfl, hW61, g62⟩
  show tt Zi d 32 (156, [some (.inr (.inl 12)), some (.inr (.inl 1)), some (.inl a_), some (.inl x31), x32], [], n33, D34, s35, p60, c37) _
  have e63 : ln D34 (p60 1205) = ln D34 (p36 1205) := (congrArg (ln D34) (g62 1205 (by decide)))
  exact tt_rtv rfl rfl ⟨n33, D34, s35, p60, c37, rfl, rfl, hS35, hC37, hW61, (fr_tr (fr_tr (fr_us (by decide) fr_rf) f8 (by decide)) f39 (by decide)), (frp_tr (frp_tr (frp_up (by decide) frp_rf) g41 (by decide)) g62 (by decide)), (ext_tr ext_rf xe42), hc43, by show 7 * (s35 401) - (s35 1602) ≤ 7 * s 401 - s 1602 + 457600; omega⟩
set_option maxRecDepth 100000 in
set_option maxHeartbeats 4000000 in
theorem g_tellPlane21_25_L66 {g : Nat → Int} {Zi : Nat → Option (Nat × (Nat → Int))} {d n q : Nat} {D : Nat → Nat × Nat} {s : Nat → Int} {p : Nat → Nat} {c : Nat → Nat → Int}  {Q : mi_Rs → mi_H → Prop} (hd : 8 ≤ d) (hz : zk Zi) (hq : q + 16 ≤ 400001) (hS : bS s) (hC : bC D c) (hW : wp q g n D p s) (a_ : Int) (y : Int) (b_a_ : 0 ≤ a_ ∧ a_ ≤ 2) (b_y : 0 ≤ y ∧ y ≤ 63) (hq0 : s 2107 + s 2106 ≤ (ln D (p 2105) : Int)) (hX12 : ∀ H, cW (q + 1) g H → Q (.inr 12) H)
  (hK : ∀ (x : Int) (s0 : Nat → Int) (c0 : Nat → Nat → Int) (b_x : 0 ≤ x ∧ x ≤ 65) (hS0 : bS s0) (hF0 : fr s s0 [902, 2001, 2002, 2003, 2004, 2108, 2109, 2110, 2111, 2112, 2113, 2114, 2115, 2116]) (hC0 : bC D c0) (hW0 : wp q g n D p s0) (i0 : s 2001 ≤ 32768 → s0 2001 ≤ 32768), (True) → tt Zi d 32 (139, [some (.inr (.inl 21)), some (.inr (.inl 25)), some (.inl a_), some (.inl y), some (.inl x)], [], n, D, s0, p, c0) Q) :
  ∀ (m : Nat) (x : Int) (s0 : Nat → Int) (c0 : Nat → Nat → Int) (b_x : 0 ≤ x ∧ x ≤ 65) (hS0 : bS s0) (hF0 : fr s s0 [902, 2001, 2002, 2003, 2004, 2108, 2109, 2110, 2111, 2112, 2113, 2114, 2115, 2116]) (hC0 : bC D c0) (hW0 : wp q g n D p s0) (i0 : s 2001 ≤ 32768 → s0 2001 ≤ 32768), (65 - x).toNat < m → tt Zi d 32 (66, [some (.inr (.inl 21)), some (.inr (.inl 25)), some (.inl a_), some (.inl y), some (.inl x)], [], n, D, s0, p, c0) Q := by
  intro m
  induction m with
  | zero => intro x s0 c0 b_x hS0 hF0 hC0 hW0 i0 hm; exact absurd hm (by omega)
  | succ m ih =>
    intro x s0 c0 b_x hS0 hF0 hC0 hW0 i0 hm
    have e1 : s0 2500 = s 2500 := hF0 2500 (by decide)
    have b2 : 0 ≤ (s0 2500) ∧ (s0 2500) ≤ 64 := hS0 2500
    have b3 : 0 ≤ (s 2500) ∧ (s 2500) ≤ 64 := hS 2500
    have e4 : s0 2501 = s 2501 := hF0 2501 (by decide)
    have b5 : 0 ≤ (s0 2501) ∧ (s0 2501) ≤ 64 := hS0 2501
    have b6 : 0 ≤ (s 2501) ∧ (s 2501) ≤ 64 := hS 2501
    have e7 : s0 2502 = s 2502 := hF0 2502 (by decide)
    have b8 : 0 ≤ (s0 2502) ∧ (s0 2502) ≤ 3 := hS0 2502
    have b9 : 0 ≤ (s 2502) ∧ (s 2502) ≤ 3 := hS 2502
    have e10 : s0 2106 = s 2106 := hF0 2106 (by decide)
    have b11 : 0 ≤ (s0 2106) ∧ (s0 2106) ≤ 64 := hS0 2106
    have b12 : 0 ≤ (s 2106) ∧ (s 2106) ≤ 64 := hS 2106
    have e13 : s0 2107 = s 2107 := hF0 2107 (by decide)
    have b14 : 0 ≤ (s0 2107) ∧ (s0 2107) ≤ 12288 := hS0 2107
    have b15 : 0 ≤ (s 2107) ∧ (s 2107) ≤ 12288 := hS 2107
    have b16 : ln D (p 2105) ≤ 12288 := (hW0).s21.2.2
    refine tt_k 3 (S' := (72, [some (.inr (.inl 21)), some (.inr (.inl 25)), some (.inl a_), some (.inl y), some (.inl x)], [.inl (s0 2106), .inl x], n, D, s0, p, c0)) rfl ?_
    refine tb_ge (x := x) (y := (s0 2106)) rfl rfl (by omega) (fun h17 => ?_) (fun h17 => ?_)
    · show tt Zi d 32 (139, [some (.inr (.inl 21)), some (.inr (.inl 25)), some (.inl a_), some (.inl y), some (.inl x)], [], n, D, s0, p, c0) _
      exact hK x s0 c0 (by omega) hS0 hF0 hC0 hW0 (show s 2001 ≤ 32768 → (s0 2001) ≤ 32768 by omega) trivial
    · show tt Zi d 32 (75, [some (.inr (.inl 21)), some (.inr (.inl 25)), some (.inl a_), some (.inl y), some (.inl x)], [], n, D, s0, p, c0) _
      refine tt_k 2 (S' := (78, [some (.inr (.inl 21)), some (.inr (.inl 25)), some (.inl a_), some (.inl y), some (.inl x)], [.inl x, .inr (.inl 21)], n, D, s0, p, c0)) rfl ?_
      refine tt_cl (by omega) rfl (g_look21 (Zi := Zi) (q := q) (n := n) (D := D) (s := s0) (p := p) (c := c0) (by omega) hz (by omega) hS0 hC0 hW0 x (by omega)) ?_
      rintro _ _ ⟨s18, rfl, rfl, hS18, hW19, f20⟩
      show tt Zi d 32 (81, [some (.inr (.inl 21)), some (.inr (.inl 25)), some (.inl a_), some (.inl y), some (.inl x)], [], n, D, s18, p, c0) _
      have e21 : s18 2500 = (s0 2500) := (f20 2500 (by decide))
      have b22 : 0 ≤ (s18 2500) ∧ (s18 2500) ≤ 64 := hS18 2500
      have e23 : s18 2501 = (s0 2501) := (f20 2501 (by decide))
      have b24 : 0 ≤ (s18 2501) ∧ (s18 2501) ≤ 64 := hS18 2501
      have e25 : s18 2502 = (s0 2502) := (f20 2502 (by decide))
      have b26 : 0 ≤ (s18 2502) ∧ (s18 2502) ≤ 3 := hS18 2502
      have e27 : s18 2106 = (s0 2106) := (f20 2106 (by decide))
      have b28 : 0 ≤ (s18 2106) ∧ (s18 2106) ≤ 64 := hS18 2106
      have e29 : s18 2107 = (s0 2107) := (f20 2107 (by decide))
      have b30 : 0 ≤ (s18 2107) ∧ (s18 2107) ≤ 12288 := hS18 2107
      have e31 : s18 2001 = (s0 2001) := (f20 2001 (by decide))
      have b32 : 0 ≤ (s18 2001) ∧ (s18 2001) ≤ 100000 := hS18 2001
      have b33 : 0 ≤ (s0 2001) ∧ (s0 2001) ≤ 100000 := hS0 2001
      refine tt_k 2 (S' := (85, [some (.inr (.inl 21)), some (.inr (.inl 25)), some (.inl a_), some (.inl y), some (.inl x)], [.inl (s18 2111)], n, D, s18, p, c0)) rfl ?_
      have b34 : 0 ≤ (s18 2111) ∧ (s18 2111) ≤ 366 := hS18 2111
      refine tz_eq (x := (s18 2111)) rfl rfl (by omega) (fun h35 => ?_) (fun h35 => ?_)
      · show tt Zi d 32 (101, [some (.inr (.inl 21)), some (.inr (.inl 25)), some (.inl a_), some (.inl y), some (.inl x)], [], n, D, s18, p, c0) _
        refine tt_k 3 (S' := (106, [some (.inr (.inl 21)), some (.inr (.inl 25)), some (.inl a_), some (.inl y), some (.inl x)], [.inl x, .inr (.inl 21), .inl x], n, D, s18, p, c0)) rfl ?_
        refine tt_cl (by omega) rfl (g_tellRun21 (Zi := Zi) (q := q) (n := n) (D := D) (s := s18) (p := p) (c := c0) (by omega) hz (by omega) hS18 hC0 hW19 x (by omega) (show x < (s18 2106) by omega)) ?_
        rintro _ H1 (⟨s36, c37, r38, rfl, rfl, hS36, hC37, hW39, f40, b41, k42, k43⟩ | ⟨rfl, hY44⟩)
        rotate_left
        · exact tt_ax rfl (hX12 _ (cW_mono hY44 (by omega)))
        show tt Zi d 32 (109, [some (.inr (.inl 21)), some (.inr (.inl 25)), some (.inl a_), some (.inl y), some (.inl x)], [.inl r38, .inl x], n, D, s36, p, c37) _
        replace k42 : x + r38 ≤ (s18 2106) := k42
        replace k43 : (s18 2001) ≤ 32768 → (s36 2001) ≤ 32768 := k43
        have b45 : 0 ≤ (s36 2001) ∧ (s36 2001) ≤ 100000 := hS36 2001
        have e46 : s36 2500 = (s18 2500) := (f40 2500 (by decide))
        have b47 : 0 ≤ (s36 2500) ∧ (s36 2500) ≤ 64 := hS36 2500
        have e48 : s36 2501 = (s18 2501) := (f40 2501 (by decide))
        have b49 : 0 ≤ (s36 2501) ∧ (s36 2501) ≤ 64 := hS36 2501
        have e50 : s36 2502 = (s18 2502) := (f40 2502 (by decide))
        have b51 : 0 ≤ (s36 2502) ∧ (s36 2502) ≤ 3 := hS36 2502
        have e52 : s36 2106 = (s18 2106) := (f40 2106 (by decide))
        have b53 : 0 ≤ (s36 2106) ∧ (s36 2106) ≤ 64 := hS36 2106
        have e54 : s36 2107 = (s18 2107) := (f40 2107 (by decide))
        have b55 : 0 ≤ (s36 2107) ∧ (s36 2107) ≤ 12288 := hS36 2107
        refine tt_k 5 (S' := (118, [some (.inr (.inl 21)), some (.inr (.inl 25)), some (.inl a_), some (.inl y), some (.inl (x + r38))], [.inl (s36 2106), .inl (x + r38)], n, D, s36, p, c37)) rfl ?_
        refine tb_ge (x := (x + r38)) (y := (s36 2106)) rfl rfl (by omega) (fun h56 => ?_) (fun h56 => ?_)
        · show tt Zi d 32 (133, [some (.inr (.inl 21)), some (.inr (.inl 25)), some (.inl a_), some (.inl y), some (.inl (x + r38))], [], n, D, s36, p, c37) _
          refine tt_k 2 (S' := (66, [some (.inr (.inl 21)), some (.inr (.inl 25)), some (.inl a_), some (.inl y), some (.inl ((x + r38) + 1))], [], n, D, s36, p, c37)) rfl ?_
          exact ih ((x + r38) + 1) s36 c37 (by omega) hS36 (fr_tr (fr_tr hF0 f20 (by decide)) f40 (by decide)) hC37 hW39 (show s 2001 ≤ 32768 → (s36 2001) ≤ 32768 by omega) (show (65 - ((x + r38) + 1)).toNat < m by omega)
        · show tt Zi d 32 (121, [some (.inr (.inl 21)), some (.inr (.inl 25)), some (.inl a_), some (.inl y), some (.inl (x + r38))], [], n, D, s36, p, c37) _
          refine tt_k 2 (S' := (124, [some (.inr (.inl 21)), some (.inr (.inl 25)), some (.inl a_), some (.inl y), some (.inl (x + r38))], [.inl (x + r38), .inr (.inl 21)], n, D, s36, p, c37)) rfl ?_
          refine tt_cl (by omega) rfl (g_aimStop21 (Zi := Zi) (q := q) (n := n) (D := D) (s := s36) (p := p) (c := c37) (by omega) hz (by omega) hS36 hC37 hW39 (x + r38) (by omega)) ?_
          rintro _ _ ⟨s57, rfl, rfl, hS57, hW58, f59⟩
          show tt Zi d 32 (127, [some (.inr (.inl 21)), some (.inr (.inl 25)), some (.inl a_), some (.inl y), some (.inl (x + r38))], [], n, D, s57, p, c37) _
          have e60 : s57 2500 = (s36 2500) := (f59 2500 (by decide))
          have b61 : 0 ≤ (s57 2500) ∧ (s57 2500) ≤ 64 := hS57 2500
          have e62 : s57 2501 = (s36 2501) := (f59 2501 (by decide))
          have b63 : 0 ≤ (s57 2501) ∧ (s57 2501) ≤ 64 := hS57 2501
          have e64 : s57 2502 = (s36 2502) := (f59 2502 (by decide))
          have b65 : 0 ≤ (s57 2502) ∧ (s57 2502) ≤ 3 := hS57 2502
          have e66 : s57 2106 = (s36 2106) := (f59 2106 (by decide))
          have b67 : 0 ≤ (s57 2106) ∧ (s57 2106) ≤ 64 := hS57 2106
          have e68 : s57 2107 = (s36 2107) := (f59 2107 (by decide))
          have b69 : 0 ≤ (s57 2107) ∧ (s57 2107) ≤ 12288 := hS57 2107
          have e70 : s57 2001 = (s36 2001) := (f59 2001 (by decide))
          have b71 : 0 ≤ (s57 2001) ∧ (s57 2001) ≤ 100000 := hS57 2001
          refine tt_k 2 (S' := (130, [some (.inr (.inl 21)), some (.inr (.inl 25)), some (.inl a_), some (.inl y), some (.inl (x + r38))], [.inl (x + r38), .inr (.inl 21)], n, D, s57, p, c37)) rfl ?_
          refine tt_cl (by omega) rfl (g_tellStop21 (Zi := Zi) (q := q) (n := n) (D := D) (s := s57) (p := p) (c := c37) (by omega) hz (by omega) hS57 hC37 hW58 (x + r38) (by omega)) ?_
          rintro _ H1 (⟨s72, c73, rfl, rfl, hS72, hC73, hW74, f75, k76⟩ | ⟨rfl, hY77⟩)
          rotate_left
          · exact tt_ax rfl (hX12 _ (cW_mono hY77 (by omega)))
          show tt Zi d 32 (133, [some (.inr (.inl 21)), some (.inr (.inl 25)), some (.inl a_), some (.inl y), some (.inl (x + r38))], [], n, D, s72, p, c73) _
          replace k76 : (s57 2001) ≤ 32768 → (s72 2001) ≤ 32768 := k76
          have b78 : 0 ≤ (s72 2001) ∧ (s72 2001) ≤ 100000 := hS72 2001
          have e79 : s72 2500 = (s57 2500) := (f75 2500 (by decide))
          have b80 : 0 ≤ (s72 2500) ∧ (s72 2500) ≤ 64 := hS72 2500
          have e81 : s72 2501 = (s57 2501) := (f75 2501 (by decide))
          have b82 : 0 ≤ (s72 2501) ∧ (s72 2501) ≤ 64 := hS72 2501
          have e83 : s72 2502 = (s57 2502) := (f75 2502 (by decide))
          have b84 : 0 ≤ (s72 2502) ∧ (s72 2502) ≤ 3 := hS72 2502
          have e85 : s72 2106 = (s57 2106) := (f75 2106 (by decide))
          have b86 : 0 ≤ (s72 2106) ∧ (s72 2106) ≤ 64 := hS72 2106
          have e87 : s72 2107 = (s57 2107) := (f75 2107 (by decide))
          have b88 : 0 ≤ (s72 2107) ∧ (s72 2107) ≤ 12288 := hS72 2107
          refine tt_k 2 (S' := (66, [some (.inr (.inl 21)), some (.inr (.inl 25)), some (.inl a_), some (.inl y), some (.inl ((x + r38) + 1))], [], n, D, s72, p, c73)) rfl ?_
          exact ih ((x + r38) + 1) s72 c73 (by omega) hS72 (fr_tr (fr_tr (fr_tr (fr_tr hF0 f20 (by decide)) f40 (by decide)) f59 (by decide)) f75 (by decide)) hC73 hW74 (show s 2001 ≤ 32768 → (s72 2001) ≤ 32768 by omega) (show (65 - ((x + r38) + 1)).toNat < m by omega)
      · show tt Zi d 32 (88, [some (.inr (.inl 21)), some (.inr (.inl 25)), some (.inl a_), some (.inl y), some (.inl x)], [], n, D, s18, p, c0) _
        refine tt_k 1 (S' := (89, [some (.inr (.inl 21)), some (.inr (.inl 25)), some (.inl a_), some (.inl y), some (.inl x)], [.inr (.inl 21)], n, D, s18, p, c0)) rfl ?_
        refine tt_cl (by omega) rfl (g_aim21 (Zi := Zi) (q := q) (n := n) (D := D) (s := s18) (p := p) (c := c0) (by omega) hz (by omega) hS18 hC0 hW19 ) ?_
        rintro _ _ ⟨s89, rfl, rfl, hS89, hW90, f91⟩
        show tt Zi d 32 (92, [some (.inr (.inl 21)), some (.inr (.inl 25)), some (.inl a_), some (.inl y), some (.inl x)], [], n, D, s89, p, c0) _
        have e92 : s89 2500 = (s18 2500) := (f91 2500 (by decide))
        have b93 : 0 ≤ (s89 2500) ∧ (s89 2500) ≤ 64 := hS89 2500
        have e94 : s89 2501 = (s18 2501) := (f91 2501 (by decide))
        have b95 : 0 ≤ (s89 2501) ∧ (s89 2501) ≤ 64 := hS89 2501
        have e96 : s89 2502 = (s18 2502) := (f91 2502 (by decide))
        have b97 : 0 ≤ (s89 2502) ∧ (s89 2502) ≤ 3 := hS89 2502
        have e98 : s89 2106 = (s18 2106) := (f91 2106 (by decide))
        have b99 : 0 ≤ (s89 2106) ∧ (s89 2106) ≤ 64 := hS89 2106
        have e100 : s89 2107 = (s18 2107) := (f91 2107 (by decide))
        have b101 : 0 ≤ (s89 2107) ∧ (s89 2107) ≤ 12288 := hS89 2107
        have e102 : s89 2001 = (s18 2001) := (f91 2001 (by decide))
        have b103 : 0 ≤ (s89 2001) ∧ (s89 2001) ≤ 100000 := hS89 2001
        refine tt_k 2 (S' := (95, [some (.inr (.inl 21)), some (.inr (.inl 25)), some (.inl a_), some (.inl y), some (.inl x)], [.inl x, .inr (.inl 21)], n, D, s89, p, c0)) rfl ?_
        refine tt_cl (by omega) rfl (g_tellSample21 (Zi := Zi) (q := q) (n := n) (D := D) (s := s89) (p := p) (c := c0) (by omega) hz (by omega) hS89 hC0 hW90 x (by omega)) ?_
        rintro _ H1 (⟨s104, c105, rfl, rfl, hS104, hC105, hW106, f107, k108⟩ | ⟨rfl, hY109⟩)
        rotate_left
        · exact tt_ax rfl (hX12 _ (cW_mono hY109 (by omega)))
        show tt Zi d 32 (98, [some (.inr (.inl 21)), some (.inr (.inl 25)), some (.inl a_), some (.inl y), some (.inl x)], [], n, D, s104, p, c105) _
        replace k108 : (s89 2001) ≤ 32768 → (s104 2001) ≤ 32768 := k108
        have b110 : 0 ≤ (s104 2001) ∧ (s104 2001) ≤ 100000 := hS104 2001
        have e111 : s104 2500 = (s89 2500) := (f107 2500 (by decide))
        have b112 : 0 ≤ (s104 2500) ∧ (s104 2500) ≤ 64 := hS104 2500
        have e113 : s104 2501 = (s89 2501) := (f107 2501 (by decide))
        have b114 : 0 ≤ (s104 2501) ∧ (s104 2501) ≤ 64 := hS104 2501
        have e115 : s104 2502 = (s89 2502) := (f107 2502 (by decide))
        have b116 : 0 ≤ (s104 2502) ∧ (s104 2502) ≤ 3 := hS104 2502
        have e117 : s104 2106 = (s89 2106) := (f107 2106 (by decide))
        have b118 : 0 ≤ (s104 2106) ∧ (s104 2106) ≤ 64 := hS104 2106
        have e119 : s104 2107 = (s89 2107) := (f107 2107 (by decide))
        have b120 : 0 ≤ (s104 2107) ∧ (s104 2107) ≤ 12288 := hS104 2107
        refine tt_k 3 (S' := (66, [some (.inr (.inl 21)), some (.inr (.inl 25)), some (.inl a_), some (.inl y), some (.inl (x + 1))], [], n, D, s104, p, c105)) rfl ?_
        exact ih (x + 1) s104 c105 (by omega) hS104 (fr_tr (fr_tr (fr_tr hF0 f20 (by decide)) f91 (by decide)) f107 (by decide)) hC105 hW106 (show s 2001 ≤ 32768 → (s104 2001) ≤ 32768 by omega) (show (65 - (x + 1)).toNat < m by omega)

set_option maxRecDepth 100000 in
set_option maxHeartbeats 4000000 in
theorem g_tellPlane21_25_L40 {g : Nat → Int} {Zi : Nat → Option (Nat × (Nat → Int))} {d n q : Nat} {D : Nat → Nat × Nat} {s : Nat → Int} {p : Nat → Nat} {c : Nat → Nat → Int}  {Q : mi_Rs → mi_H → Prop} (hd : 8 ≤ d) (hz : zk Zi) (hq : q + 16 ≤ 400001) (hS : bS s) (hC : bC D c) (hW : wp q g n D p s) (a_ : Int) (b_a_ : 0 ≤ a_ ∧ a_ ≤ 2) (hq0 : s 2500 * s 2501 * s 2502 ≤ (ln D (p 2105) : Int)) (hq1 : s 2106 = s 2500) (hq2 : a_ < s 2502 ∧ 1 ≤ s 2500) (hX12 : ∀ H, cW (q + 1) g H → Q (.inr 12) H)
  (hK : ∀ (y : Int) (o_4 : Option mi_V) (s0 : Nat → Int) (p0 : Nat → Nat) (c0 : Nat → Nat → Int) (b_y : 0 ≤ y ∧ y ≤ 64) (hS0 : bS s0) (hF0 : fr s s0 [902, 2001, 2002, 2003, 2004, 2107, 2108, 2109, 2110, 2111, 2112, 2113, 2114, 2115, 2116]) (hC0 : bC D c0) (hW0 : wp q g n D p0 s0) (hP0 : frp p p0 [2103, 2104]) (i0 : y ≤ s 2501) (i1 : s 2001 ≤ 32768 → s0 2001 ≤ 32768), (True) → tt Zi d 32 (149, [some (.inr (.inl 21)), some (.inr (.inl 25)), some (.inl a_), some (.inl y), o_4], [], n, D, s0, p0, c0) Q) :
  ∀ (m : Nat) (y : Int) (o_4 : Option mi_V) (s0 : Nat → Int) (p0 : Nat → Nat) (c0 : Nat → Nat → Int) (b_y : 0 ≤ y ∧ y ≤ 64) (hS0 : bS s0) (hF0 : fr s s0 [902, 2001, 2002, 2003, 2004, 2107, 2108, 2109, 2110, 2111, 2112, 2113, 2114, 2115, 2116]) (hC0 : bC D c0) (hW0 : wp q g n D p0 s0) (hP0 : frp p p0 [2103, 2104]) (i0 : y ≤ s 2501) (i1 : s 2001 ≤ 32768 → s0 2001 ≤ 32768), (s 2501 - y).toNat < m → tt Zi d 32 (40, [some (.inr (.inl 21)), some (.inr (.inl 25)), some (.inl a_), some (.inl y), o_4], [], n, D, s0, p0, c0) Q := by
  intro m
  induction m with
  | zero => intro y o_4 s0 p0 c0 b_y hS0 hF0 hC0 hW0 hP0 i0 i1 hm; exact absurd hm (by omega)
  | succ m ih =>
    intro y o_4 s0 p0 c0 b_y hS0 hF0 hC0 hW0 hP0 i0 i1 hm
    have e1 : s0 2500 = s 2500 := hF0 2500 (by decide)
    have b2 : 0 ≤ (s0 2500) ∧ (s0 2500) ≤ 64 := hS0 2500
    have b3 : 0 ≤ (s 2500) ∧ (s 2500) ≤ 64 := hS 2500
    have e4 : s0 2501 = s 2501 := hF0 2501 (by decide)
    have b5 : 0 ≤ (s0 2501) ∧ (s0 2501) ≤ 64 := hS0 2501
    have b6 : 0 ≤ (s 2501) ∧ (s 2501) ≤ 64 := hS 2501
    have e7 : s0 2502 = s 2502 := hF0 2502 (by decide)
    have b8 : 0 ≤ (s0 2502) ∧ (s0 2502) ≤ 3 := hS0 2502
    have b9 : 0 ≤ (s 2502) ∧ (s 2502) ≤ 3 := hS 2502
    have e10 : s0 2106 = s 2106 := hF0 2106 (by decide)
    have b11 : 0 ≤ (s0 2106) ∧ (s0 2106) ≤ 64 := hS0 2106
    have b12 : 0 ≤ (s 2106) ∧ (s 2106) ≤ 64 := hS 2106
    have b13 : ln D (p0 2105) ≤ 12288 := (hW0).s21.2.2
    have el : ln D (p0 2105) = ln D (p 2105) := by rw [hP0 2105 (by decide)]
    refine tt_k 3 (S' := (45, [some (.inr (.inl 21)), some (.inr (.inl 25)), some (.inl a_), some (.inl y), o_4], [.inl (s0 2501), .inl y], n, D, s0, p0, c0)) rfl ?_
    refine tb_ge (x := y) (y := (s0 2501)) rfl rfl (by omega) (fun h14 => ?_) (fun h14 => ?_)
    · show tt Zi d 32 (149, [some (.inr (.inl 21)), some (.inr (.inl 25)), some (.inl a_), some (.inl y), o_4], [], n, D, s0, p0, c0) _
      exact hK y (o_4) s0 p0 c0 (by omega) hS0 hF0 hC0 hW0 hP0 (show y ≤ s 2501 by omega) (show s 2001 ≤ 32768 → (s0 2001) ≤ 32768 by omega) trivial
    · show tt Zi d 32 (48, [some (.inr (.inl 21)), some (.inr (.inl 25)), some (.inl a_), some (.inl y), o_4], [], n, D, s0, p0, c0) _
      refine tt_k 5 (S' := (53, [some (.inr (.inl 21)), some (.inr (.inl 25)), some (.inl a_), some (.inl y), o_4], [.inl y, .inl 0, .inl a_, .inr (.inl 25), .inr (.inl 21)], n, D, s0, p0, c0)) rfl ?_
      refine tt_cl (by omega) rfl (g_index25 (Zi := Zi) (q := q) (n := n) (D := D) (s := s0) (p := p0) (c := c0) (by omega) hz (by omega) hS0 hC0 hW0 a_ 0 y (by omega) (by omega) (by omega) (show a_ < (s0 2502) ∧ 0 < (s0 2500) ∧ y < (s0 2501) by omega)) ?_
      rintro _ _ ⟨r15, rfl, rfl, b16, k17, k18⟩
      show tt Zi d 32 (56, [some (.inr (.inl 21)), some (.inr (.inl 25)), some (.inl a_), some (.inl y), o_4], [.inl r15, .inr (.inl 21)], n, D, s0, p0, c0) _
      replace k17 : r15 = (a_ * (s0 2501) + y) * (s0 2500) + 0 := k17
      replace k18 : r15 + (s0 2500) - 0 ≤ (s0 2500) * (s0 2501) * (s0 2502) := k18
      have hmm : (s0 2500) * (s0 2501) * (s0 2502) = s 2500 * s 2501 * s 2502 := by rw [show (s0 2500) = s 2500 by omega, show (s0 2501) = s 2501 by omega, show (s0 2502) = s 2502 by omega]
      refine tt_k 2 (S' := (60, [some (.inr (.inl 21)), some (.inr (.inl 25)), some (.inl a_), some (.inl y), o_4], [.inr (.inl 21)], n, D, (us s0 2107 r15), p0, c0)) rfl ?_
      refine tt_cl (by omega) rfl (g_openRow21 (Zi := Zi) (q := q) (n := n) (D := D) (s := (us s0 2107 r15)) (p := p0) (c := c0) (by omega) hz (by omega) (bS_us hS0 (show 0 ≤ r15 ∧ r15 ≤ 12288 by omega)) hC0 (wp_us (by decide) hW0) ) ?_
      rintro _ _ ⟨p19, c20, rfl, rfl, hC20, hW21, g22⟩
      show tt Zi d 32 (63, [some (.inr (.inl 21)), some (.inr (.inl 25)), some (.inl a_), some (.inl y), o_4], [], n, D, (us s0 2107 r15), p19, c20) _
      have e23 : ln D (p19 2105) = ln D (p0 2105) := (congrArg (ln D) (g22 2105 (by decide)))
      refine tt_k 2 (S' := (66, [some (.inr (.inl 21)), some (.inr (.inl 25)), some (.inl a_), some (.inl y), some (.inl 0)], [], n, D, (us s0 2107 r15), p19, c20)) rfl ?_
      refine g_tellPlane21_25_L66 (Zi := Zi) (q := q) (n := n) (D := D) (s := (us s0 2107 r15)) (p := p19) (c := c20) hd hz (by omega) (bS_us hS0 (show 0 ≤ r15 ∧ r15 ≤ 12288 by omega)) hC20 hW21  a_ y (by omega) (by omega) (show r15 + (s0 2106) ≤ (ln D (p19 2105) : Int) by omega) (fun H h => hX12 H (cW_mono h (by omega))) ?_ _ 0 (us s0 2107 r15) c20 (by omega) (bS_us hS0 (show 0 ≤ r15 ∧ r15 ≤ 12288 by omega)) fr_rf hC20 hW21 (fun h => h) (Nat.lt_succ_self _)
      intro x24 s25 c26 b27 hS25 f28 hC26 hW29 i30 hx31
      show tt Zi d 32 (139, [some (.inr (.inl 21)), some (.inr (.inl 25)), some (.inl a_), some (.inl y), some (.inl x24)], [], n, D, s25, p19, c26) _
      replace i30 : (s0 2001) ≤ 32768 → (s25 2001) ≤ 32768 := i30
      have b32 : 0 ≤ (s25 2001) ∧ (s25 2001) ≤ 100000 := hS25 2001
      have e33 : s25 2500 = (s0 2500) := (f28 2500 (by decide))
      have b34 : 0 ≤ (s25 2500) ∧ (s25 2500) ≤ 64 := hS25 2500
      have e35 : s25 2501 = (s0 2501) := (f28 2501 (by decide))
      have b36 : 0 ≤ (s25 2501) ∧ (s25 2501) ≤ 64 := hS25 2501
      have e37 : s25 2502 = (s0 2502) := (f28 2502 (by decide))
      have b38 : 0 ≤ (s25 2502) ∧ (s25 2502) ≤ 3 := hS25 2502
      have e39 : s25 2106 = (s0 2106) := (f28 2106 (by decide))
      have b40 : 0 ≤ (s25 2106) ∧ (s25 2106) ≤ 64 := hS25 2106
      have e41 : s25 2107 = r15 := (f28 2107 (by decide))
      have b42 : 0 ≤ (s25 2107) ∧ (s25 2107) ≤ 12288 := hS25 2107
      refine tt_k 1 (S' := (140, [some (.inr (.inl 21)), some (.inr (.inl 25)), some (.inl a_), some (.inl y), some (.inl x24)], [.inr (.inl 21)], n, D, s25, p19, c26)) rfl ?_
      refine tt_cl (by omega) rfl (g_closeRow21 (Zi := Zi) (q := q) (n := n) (D := D) (s := s25) (p := p19) (c := c26) (by omega) hz (by omega) hS25 hC26 hW29 (show (s25 2107) + (s25 2106) ≤ (ln D (p19 2105) : Int) by omega)) ?_
      rintro _ _ ⟨c43, rfl, rfl, hC43⟩
      show tt Zi d 32 (143, [some (.inr (.inl 21)), some (.inr (.inl 25)), some (.inl a_), some (.inl y), some (.inl x24)], [], n, D, s25, p19, c43) _
      refine tt_k 2 (S' := (40, [some (.inr (.inl 21)), some (.inr (.inl 25)), some (.inl a_), some (.inl (y + 1)), some (.inl x24)], [], n, D, s25, p19, c43)) rfl ?_
      exact ih (y + 1) (some (.inl x24)) s25 p19 c43 (by omega) hS25 (fr_tr (fr_us (by decide) hF0) f28 (by decide)) hC43 hW29 (frp_tr hP0 g22 (by decide)) (show (y + 1) ≤ s 2501 by omega) (show s 2001 ≤ 32768 → (s25 2001) ≤ 32768 by omega) (show (s 2501 - (y + 1)).toNat < m by omega)
set_option maxRecDepth 100000 in
set_option maxHeartbeats 4000000 in
theorem g_tellPlane21_25 {g : Nat → Int} {Zi : Nat → Option (Nat × (Nat → Int))} {d n q : Nat} {D : Nat → Nat × Nat} {s : Nat → Int} {p : Nat → Nat} {c : Nat → Nat → Int} (hd : 8 ≤ d) (hz : zk Zi) (hq : q + 16 ≤ 400000) (hS : bS s) (hC : bC D c) (hW : wp q g n D p s) (a_ : Int) (b_a_ : 0 ≤ a_ ∧ a_ ≤ 2) (hp0 : a_ < s 2502 ∧ 1 ≤ s 2500) : tt Zi d 32 (0, [some (.inr (.inl 21)), some (.inr (.inl 25)), some (.inl a_), none, none], [], n, D, s, p, c) (fun R H => (∃ (s' : Nat → Int) (p' : Nat → Nat) (c' : Nat → Nat → Int), R = .inl none ∧ H = (n, D, s', p', c') ∧ bS s' ∧ bC D c' ∧ wp q g n D p' s' ∧ fr s s' [902, 2001, 2002, 2003, 2004, 2106, 2107, 2108, 2109, 2110, 2111, 2112, 2113, 2114, 2115, 2116] ∧ frp p p' [900, 901, 2103, 2104, 2105] ∧ (s 2001 ≤ 32768 → s' 2001 ≤ 32768)) ∨ (R = .inr 12 ∧ cW ((q + 1)) g H)) := by
  have b1 : 0 ≤ (s 2500) ∧ (s 2500) ≤ 64 := hS 2500
  have b2 : 0 ≤ (s 2501) ∧ (s 2501) ≤ 64 := hS 2501
  have b3 : 0 ≤ (s 2502) ∧ (s 2502) ≤ 3 := hS 2502
  refine tt_k 13 (S' := (27, [some (.inr (.inl 21)), some (.inr (.inl 25)), some (.inl a_), none, none], [.inl (s 807), .inr (.inl 9)], n, D, (us s 2106 (s 2500)), (up p 2105 (p 2504)), c)) rfl ?_
  have b4 : 0 ≤ (s 807) ∧ (s 807) ≤ 65536 := hS 807
  refine tt_cl (by omega) rfl (g_begin (Zi := Zi) (q := q) (n := n) (D := D) (s := (us s 2106 (s 2500))) (p := (up p 2105 (p 2504))) (c := c) (by omega) hz (by omega) (bS_us hS (show 0 ≤ (s 2500) ∧ (s 2500) ≤ 64 by omega)) hC (wp_us (by decide) (wp_sa21_25 hW)) (s 807) (by omega)) ?_
  rintro _ _ ⟨s5, c6, rfl, rfl, hS5, hC6, hW7, f8⟩
  show tt Zi d 32 (30, [some (.inr (.inl 21)), some (.inr (.inl 25)), some (.inl a_), none, none], [], n, D, s5, (up p 2105 (p 2504)), c6) _
  have e9 : s5 2500 = (s 2500) := (f8 2500 (by decide))
  have b10 : 0 ≤ (s5 2500) ∧ (s5 2500) ≤ 64 := hS5 2500
  have e11 : s5 2501 = (s 2501) := (f8 2501 (by decide))
  have b12 : 0 ≤ (s5 2501) ∧ (s5 2501) ≤ 64 := hS5 2501
  have e13 : s5 2502 = (s 2502) := (f8 2502 (by decide))
  have b14 : 0 ≤ (s5 2502) ∧ (s5 2502) ≤ 3 := hS5 2502
  have e15 : s5 2106 = (s 2500) := (f8 2106 (by decide))
  have b16 : 0 ≤ (s5 2106) ∧ (s5 2106) ≤ 64 := hS5 2106
  have e17 : s5 2107 = (s 2107) := (f8 2107 (by decide))
  have b18 : 0 ≤ (s5 2107) ∧ (s5 2107) ≤ 12288 := hS5 2107
  have b19 : 0 ≤ (s 2107) ∧ (s 2107) ≤ 12288 := hS 2107
  have e20 : s5 2001 = (s 2001) := (f8 2001 (by decide))
  have b21 : 0 ≤ (s5 2001) ∧ (s5 2001) ≤ 100000 := hS5 2001
  have b22 : 0 ≤ (s 2001) ∧ (s 2001) ≤ 100000 := hS 2001
  refine tt_k 3 (S' := (35, [some (.inr (.inl 21)), some (.inr (.inl 25)), some (.inl a_), none, none], [.inl 0, .inr (.inl (p 2104))], n, D, s5, (up p 2105 (p 2504)), c6)) rfl ?_
  refine tt_cl (by omega) rfl (g_fill (A := (p 2104)) (m := 66) (s := s5) (p := (up p 2105 (p 2504))) ((sw_arr (hW7).a21 rfl rfl).2) (by omega) (by rw [(show bC_lo D (p 2104) = 0 ∧ bC_hi D (p 2104) = 65535 from ((sw_21 (hW7).a21).2)).1, (show bC_lo D (p 2104) = 0 ∧ bC_hi D (p 2104) = 65535 from ((sw_21 (hW7).a21).2)).2]; decide) hC6) ?_
  rintro _ _ ⟨c23, rfl, rfl, hC23⟩
  show tt Zi d 32 (38, [some (.inr (.inl 21)), some (.inr (.inl 25)), some (.inl a_), none, none], [], n, D, s5, (up p 2105 (p 2504)), c23) _
  refine tt_k 2 (S' := (40, [some (.inr (.inl 21)), some (.inr (.inl 25)), some (.inl a_), some (.inl 0), none], [], n, D, s5, (up p 2105 (p 2504)), c23)) rfl ?_
  refine g_tellPlane21_25_L40 (Zi := Zi) (q := q) (n := n) (D := D) (s := s5) (p := (up p 2105 (p 2504))) (c := c23) hd hz (by omega) hS5 hC23 hW7  a_ (by omega) (show _ from (hW7).w25) (show (s5 2106) = (s5 2500) by omega) (show a_ < (s5 2502) ∧ 1 ≤ (s5 2500) by omega) (fun H h => (Or.inr ⟨rfl, cW_mono h (by omega)⟩)) ?_ _ 0 (none) s5 (up p 2105 (p 2504)) c23 (by omega) hS5 fr_rf hC23 hW7 frp_rf (show 0 ≤ (s5 2501) by omega) (fun h => h) (Nat.lt_succ_self _)
  intro x24 x25 s26 p27 c28 b29 hS26 f30 hC28 hW31 g32 i33 i34 hx35
  show tt Zi d 32 (149, [some (.inr (.inl 21)), some (.inr (.inl 25)), some (.inl a_), some (.inl x24), x25], [], n, D, s26, p27, c28) _
  replace i33 : x24 ≤ (s5 2501) := i33
  replace i34 : (s5 2001) ≤ 32768 → (s26 2001) ≤ 32768 := i34
  have b36 : 0 ≤ (s26 2001) ∧ (s26 2001) ≤ 100000 := hS26 2001
  have e37 : s26 2500 = (s5 2500) := (f30 2500 (by decide))
  have b38 : 0 ≤ (s26 2500) ∧ (s26 2500) ≤ 64 := hS26 2500
  have e39 : s26 2501 = (s5 2501) := (f30 2501 (by decide))
  have b40 : 0 ≤ (s26 2501) ∧ (s26 2501) ≤ 64 := hS26 2501
  have e41 : s26 2502 = (s5 2502) := (f30 2502 (by decide))
  have b42 : 0 ≤ (s26 2502) ∧ (s26 2502) ≤ 3 := hS26 2502
  have e43 : s26 2106 = (s5 2106) := (f30 2106 (by decide))
  have b44 : 0 ≤ (s26 2106) ∧ (s26 2106) ≤ 64 := hS26 2106
  have e45 : ln D (p27 2105) = ln D (p 2504) := (congrArg (ln D) (g32 2105 (by decide)))
  refine tt_k 2 (S' := (153, [some (.inr (.inl 21)), some (.inr (.inl 25)), some (.inl a_), some (.inl x24), x25], [.inr (.inl 9)], n, D, s26, p27, c28)) rfl ?_
  refine tt_cl (by omega) rfl (g_keep (Zi := Zi) (q := q) (n := n) (D := D) (s := s26) (p := p27) (c := c28) (by omega) hz (by omega) hS26 hC28 hW31 ) ?_
  rintro _ _ ⟨p46, rfl, rfl, hW47, g48⟩
  show tt Zi d 32 (156, [some (.inr (.inl 21)), some (.inr (.inl 25)), some (.inl a_), some (.inl x24), x25], [], n, D, s26, p46, c28) _
  have e49 : ln D (p46 2105) = ln D (p27 2105) := (congrArg (ln D) (g48 2105 (by decide)))
  exact tt_rtv rfl rfl (Or.inl ⟨s26, p46, c28, rfl, rfl, hS26, hC28, hW47, (fr_tr (fr_tr (fr_us (by decide) fr_rf) f8 (by decide)) f30 (by decide)), (frp_tr (frp_tr (frp_up (by decide) frp_rf) g32 (by decide)) g48 (by decide)), by show s 2001 ≤ 32768 → (s26 2001) ≤ 32768; omega⟩)
set_option maxRecDepth 100000 in
set_option maxHeartbeats 4000000 in
theorem g_tellPlane21_27_L66 {g : Nat → Int} {Zi : Nat → Option (Nat × (Nat → Int))} {d n q : Nat} {D : Nat → Nat × Nat} {s : Nat → Int} {p : Nat → Nat} {c : Nat → Nat → Int}  {Q : mi_Rs → mi_H → Prop} (hd : 8 ≤ d) (hz : zk Zi) (hq : q + 16 ≤ 400001) (hS : bS s) (hC : bC D c) (hW : wp q g n D p s) (a_ : Int) (y : Int) (b_a_ : 0 ≤ a_ ∧ a_ ≤ 2) (b_y : 0 ≤ y ∧ y ≤ 63) (hq0 : s 2107 + s 2106 ≤ (ln D (p 2105) : Int)) (hX12 : ∀ H, cW (q + 1) g H → Q (.inr 12) H)
  (hK : ∀ (x : Int) (s0 : Nat → Int) (c0 : Nat → Nat → Int) (b_x : 0 ≤ x ∧ x ≤ 65) (hS0 : bS s0) (hF0 : fr s s0 [902, 2001, 2002, 2003, 2004, 2108, 2109, 2110, 2111, 2112, 2113, 2114, 2115, 2116]) (hC0 : bC D c0) (hW0 : wp q g n D p s0) (i0 : s 2001 ≤ 32768 → s0 2001 ≤ 32768), (True) → tt Zi d 32 (139, [some (.inr (.inl 21)), some (.inr (.inl 27)), some (.inl a_), some (.inl y), some (.inl x)], [], n, D, s0, p, c0) Q) :
  ∀ (m : Nat) (x : Int) (s0 : Nat → Int) (c0 : Nat → Nat → Int) (b_x : 0 ≤ x ∧ x ≤ 65) (hS0 : bS s0) (hF0 : fr s s0 [902, 2001, 2002, 2003, 2004, 2108, 2109, 2110, 2111, 2112, 2113, 2114, 2115, 2116]) (hC0 : bC D c0) (hW0 : wp q g n D p s0) (i0 : s 2001 ≤ 32768 → s0 2001 ≤ 32768), (65 - x).toNat < m → tt Zi d 32 (66, [some (.inr (.inl 21)), some (.inr (.inl 27)), some (.inl a_), some (.inl y), some (.inl x)], [], n, D, s0, p, c0) Q := by
  intro m
  induction m with
  | zero => intro x s0 c0 b_x hS0 hF0 hC0 hW0 i0 hm; exact absurd hm (by omega)
  | succ m ih =>
    intro x s0 c0 b_x hS0 hF0 hC0 hW0 i0 hm
    have e1 : s0 2700 = s 2700 := hF0 2700 (by decide)
    have b2 : 0 ≤ (s0 2700) ∧ (s0 2700) ≤ 64 := hS0 2700
    have b3 : 0 ≤ (s 2700) ∧ (s 2700) ≤ 64 := hS 2700
    have e4 : s0 2701 = s 2701 := hF0 2701 (by decide)
    have b5 : 0 ≤ (s0 2701) ∧ (s0 2701) ≤ 64 := hS0 2701
    have b6 : 0 ≤ (s 2701) ∧ (s 2701) ≤ 64 := hS 2701
    have e7 : s0 2702 = s 2702 := hF0 2702 (by decide)
    have b8 : 0 ≤ (s0 2702) ∧ (s0 2702) ≤ 3 := hS0 2702
    have b9 : 0 ≤ (s 2702) ∧ (s 2702) ≤ 3 := hS 2702
    have e10 : s0 2106 = s 2106 := hF0 2106 (by decide)
    have b11 : 0 ≤ (s0 2106) ∧ (s0 2106) ≤ 64 := hS0 2106
    have b12 : 0 ≤ (s 2106) ∧ (s 2106) ≤ 64 := hS 2106
    have e13 : s0 2107 = s 2107 := hF0 2107 (by decide)
    have b14 : 0 ≤ (s0 2107) ∧ (s0 2107) ≤ 12288 := hS0 2107
    have b15 : 0 ≤ (s 2107) ∧ (s 2107) ≤ 12288 := hS 2107
    have b16 : ln D (p 2105) ≤ 12288 := (hW0).s21.2.2
    refine tt_k 3 (S' := (72, [some (.inr (.inl 21)), some (.inr (.inl 27)), some (.inl a_), some (.inl y), some (.inl x)], [.inl (s0 2106), .inl x], n, D, s0, p, c0)) rfl ?_
    refine tb_ge (x := x) (y := (s0 2106)) rfl rfl (by omega) (fun h17 => ?_) (fun h17 => ?_)
    · show tt Zi d 32 (139, [some (.inr (.inl 21)), some (.inr (.inl 27)), some (.inl a_), some (.inl y), some (.inl x)], [], n, D, s0, p, c0) _
      exact hK x s0 c0 (by omega) hS0 hF0 hC0 hW0 (show s 2001 ≤ 32768 → (s0 2001) ≤ 32768 by omega) trivial
    · show tt Zi d 32 (75, [some (.inr (.inl 21)), some (.inr (.inl 27)), some (.inl a_), some (.inl y), some (.inl x)], [], n, D, s0, p, c0) _
      refine tt_k 2 (S' := (78, [some (.inr (.inl 21)), some (.inr (.inl 27)), some (.inl a_), some (.inl y), some (.inl x)], [.inl x, .inr (.inl 21)], n, D, s0, p, c0)) rfl ?_
      refine tt_cl (by omega) rfl (g_look21 (Zi := Zi) (q := q) (n := n) (D := D) (s := s0) (p := p) (c := c0) (by omega) hz (by omega) hS0 hC0 hW0 x (by omega)) ?_
      rintro _ _ ⟨s18, rfl, rfl, hS18, hW19, f20⟩
      show tt Zi d 32 (81, [some (.inr (.inl 21)), some (.inr (.inl 27)), some (.inl a_), some (.inl y), some (.inl x)], [], n, D, s18, p, c0) _
      have e21 : s18 2700 = (s0 2700) := (f20 2700 (by decide))
      have b22 : 0 ≤ (s18 2700) ∧ (s18 2700) ≤ 64 := hS18 2700
      have e23 : s18 2701 = (s0 2701) := (f20 2701 (by decide))
      have b24 : 0 ≤ (s18 2701) ∧ (s18 2701) ≤ 64 := hS18 2701
      have e25 : s18 2702 = (s0 2702) := (f20 2702 (by decide))
      have b26 : 0 ≤ (s18 2702) ∧ (s18 2702) ≤ 3 := hS18 2702
      have e27 : s18 2106 = (s0 2106) := (f20 2106 (by decide))
      have b28 : 0 ≤ (s18 2106) ∧ (s18 2106) ≤ 64 := hS18 2106
      have e29 : s18 2107 = (s0 2107) := (f20 2107 (by decide))
      have b30 : 0 ≤ (s18 2107) ∧ (s18 2107) ≤ 12288 := hS18 2107
      have e31 : s18 2001 = (s0 2001) := (f20 2001 (by decide))
      have b32 : 0 ≤ (s18 2001) ∧ (s18 2001) ≤ 100000 := hS18 2001
      have b33 : 0 ≤ (s0 2001) ∧ (s0 2001) ≤ 100000 := hS0 2001
      refine tt_k 2 (S' := (85, [some (.inr (.inl 21)), some (.inr (.inl 27)), some (.inl a_), some (.inl y), some (.inl x)], [.inl (s18 2111)], n, D, s18, p, c0)) rfl ?_
      have b34 : 0 ≤ (s18 2111) ∧ (s18 2111) ≤ 366 := hS18 2111
      refine tz_eq (x := (s18 2111)) rfl rfl (by omega) (fun h35 => ?_) (fun h35 => ?_)
      · show tt Zi d 32 (101, [some (.inr (.inl 21)), some (.inr (.inl 27)), some (.inl a_), some (.inl y), some (.inl x)], [], n, D, s18, p, c0) _
        refine tt_k 3 (S' := (106, [some (.inr (.inl 21)), some (.inr (.inl 27)), some (.inl a_), some (.inl y), some (.inl x)], [.inl x, .inr (.inl 21), .inl x], n, D, s18, p, c0)) rfl ?_
        refine tt_cl (by omega) rfl (g_tellRun21 (Zi := Zi) (q := q) (n := n) (D := D) (s := s18) (p := p) (c := c0) (by omega) hz (by omega) hS18 hC0 hW19 x (by omega) (show x < (s18 2106) by omega)) ?_
        rintro _ H1 (⟨s36, c37, r38, rfl, rfl, hS36, hC37, hW39, f40, b41, k42, k43⟩ | ⟨rfl, hY44⟩)
        rotate_left
        · exact tt_ax rfl (hX12 _ (cW_mono hY44 (by omega)))
        show tt Zi d 32 (109, [some (.inr (.inl 21)), some (.inr (.inl 27)), some (.inl a_), some (.inl y), some (.inl x)], [.inl r38, .inl x], n, D, s36, p, c37) _
        replace k42 : x + r38 ≤ (s18 2106) := k42
        replace k43 : (s18 2001) ≤ 32768 → (s36 2001) ≤ 32768 := k43
        have b45 : 0 ≤ (s36 2001) ∧ (s36 2001) ≤ 100000 := hS36 2001
        have e46 : s36 2700 = (s18 2700) := (f40 2700 (by decide))
        have b47 : 0 ≤ (s36 2700) ∧ (s36 2700) ≤ 64 := hS36 2700
        have e48 : s36 2701 = (s18 2701) := (f40 2701 (by decide))
        have b49 : 0 ≤ (s36 2701) ∧ (s36 2701) ≤ 64 := hS36 2701
        have e50 : s36 2702 = (s18 2702) := (f40 2702 (by decide))
        have b51 : 0 ≤ (s36 2702) ∧ (s36 2702) ≤ 3 := hS36 2702
        have e52 : s36 2106 = (s18 2106) := (f40 2106 (by decide))
        have b53 : 0 ≤ (s36 2106) ∧ (s36 2106) ≤ 64 := hS36 2106
        have e54 : s36 2107 = (s18 2107) := (f40 2107 (by decide))
        have b55 : 0 ≤ (s36 2107) ∧ (s36 2107) ≤ 12288 := hS36 2107
        refine tt_k 5 (S' := (118, [some (.inr (.inl 21)), some (.inr (.inl 27)), some (.inl a_), some (.inl y), some (.inl (x + r38))], [.inl (s36 2106), .inl (x + r38)], n, D, s36, p, c37)) rfl ?_
        refine tb_ge (x := (x + r38)) (y := (s36 2106)) rfl rfl (by omega) (fun h56 => ?_) (fun h56 => ?_)
        · show tt Zi d 32 (133, [some (.inr (.inl 21)), some (.inr (.inl 27)), some (.inl a_), some (.inl y), some (.inl (x + r38))], [], n, D, s36, p, c37) _
          refine tt_k 2 (S' := (66, [some (.inr (.inl 21)), some (.inr (.inl 27)), some (.inl a_), some (.inl y), some (.inl ((x + r38) + 1))], [], n, D, s36, p, c37)) rfl ?_
          exact ih ((x + r38) + 1) s36 c37 (by omega) hS36 (fr_tr (fr_tr hF0 f20 (by decide)) f40 (by decide)) hC37 hW39 (show s 2001 ≤ 32768 → (s36 2001) ≤ 32768 by omega) (show (65 - ((x + r38) + 1)).toNat < m by omega)
        · show tt Zi d 32 (121, [some (.inr (.inl 21)), some (.inr (.inl 27)), some (.inl a_), some (.inl y), some (.inl (x + r38))], [], n, D, s36, p, c37) _
          refine tt_k 2 (S' := (124, [some (.inr (.inl 21)), some (.inr (.inl 27)), some (.inl a_), some (.inl y), some (.inl (x + r38))], [.inl (x + r38), .inr (.inl 21)], n, D, s36, p, c37)) rfl ?_
          refine tt_cl (by omega) rfl (g_aimStop21 (Zi := Zi) (q := q) (n := n) (D := D) (s := s36) (p := p) (c := c37) (by omega) hz (by omega) hS36 hC37 hW39 (x + r38) (by omega)) ?_
          rintro _ _ ⟨s57, rfl, rfl, hS57, hW58, f59⟩
          show tt Zi d 32 (127, [some (.inr (.inl 21)), some (.inr (.inl 27)), some (.inl a_), some (.inl y), some (.inl (x + r38))], [], n, D, s57, p, c37) _
          have e60 : s57 2700 = (s36 2700) := (f59 2700 (by decide))
          have b61 : 0 ≤ (s57 2700) ∧ (s57 2700) ≤ 64 := hS57 2700
          have e62 : s57 2701 = (s36 2701) := (f59 2701 (by decide))
          have b63 : 0 ≤ (s57 2701) ∧ (s57 2701) ≤ 64 := hS57 2701
          have e64 : s57 2702 = (s36 2702) := (f59 2702 (by decide))
          have b65 : 0 ≤ (s57 2702) ∧ (s57 2702) ≤ 3 := hS57 2702
          have e66 : s57 2106 = (s36 2106) := (f59 2106 (by decide))
          have b67 : 0 ≤ (s57 2106) ∧ (s57 2106) ≤ 64 := hS57 2106
          have e68 : s57 2107 = (s36 2107) := (f59 2107 (by decide))
          have b69 : 0 ≤ (s57 2107) ∧ (s57 2107) ≤ 12288 := hS57 2107
          have e70 : s57 2001 = (s36 2001) := (f59 2001 (by decide))
          have b71 : 0 ≤ (s57 2001) ∧ (s57 2001) ≤ 100000 := hS57 2001
          refine tt_k 2 (S' := (130, [some (.inr (.inl 21)), some (.inr (.inl 27)), some (.inl a_), some (.inl y), some (.inl (x + r38))], [.inl (x + r38), .inr (.inl 21)], n, D, s57, p, c37)) rfl ?_
          refine tt_cl (by omega) rfl (g_tellStop21 (Zi := Zi) (q := q) (n := n) (D := D) (s := s57) (p := p) (c := c37) (by omega) hz (by omega) hS57 hC37 hW58 (x + r38) (by omega)) ?_
          rintro _ H1 (⟨s72, c73, rfl, rfl, hS72, hC73, hW74, f75, k76⟩ | ⟨rfl, hY77⟩)
          rotate_left
          · exact tt_ax rfl (hX12 _ (cW_mono hY77 (by omega)))
          show tt Zi d 32 (133, [some (.inr (.inl 21)), some (.inr (.inl 27)), some (.inl a_), some (.inl y), some (.inl (x + r38))], [], n, D, s72, p, c73) _
          replace k76 : (s57 2001) ≤ 32768 → (s72 2001) ≤ 32768 := k76
          have b78 : 0 ≤ (s72 2001) ∧ (s72 2001) ≤ 100000 := hS72 2001
          have e79 : s72 2700 = (s57 2700) := (f75 2700 (by decide))
          have b80 : 0 ≤ (s72 2700) ∧ (s72 2700) ≤ 64 := hS72 2700
          have e81 : s72 2701 = (s57 2701) := (f75 2701 (by decide))
          have b82 : 0 ≤ (s72 2701) ∧ (s72 2701) ≤ 64 := hS72 2701
          have e83 : s72 2702 = (s57 2702) := (f75 2702 (by decide))
          have b84 : 0 ≤ (s72 2702) ∧ (s72 2702) ≤ 3 := hS72 2702
          have e85 : s72 2106 = (s57 2106) := (f75 2106 (by decide))
          have b86 : 0 ≤ (s72 2106) ∧ (s72 2106) ≤ 64 := hS72 2106
          have e87 : s72 2107 = (s57 2107) := (f75 2107 (by decide))
          have b88 : 0 ≤ (s72 2107) ∧ (s72 2107) ≤ 12288 := hS72 2107
          refine tt_k 2 (S' := (66, [some (.inr (.inl 21)), some (.inr (.inl 27)), some (.inl a_), some (.inl y), some (.inl ((x + r38) + 1))], [], n, D, s72, p, c73)) rfl ?_
          exact ih ((x + r38) + 1) s72 c73 (by omega) hS72 (fr_tr (fr_tr (fr_tr (fr_tr hF0 f20 (by decide)) f40 (by decide)) f59 (by decide)) f75 (by decide)) hC73 hW74 (show s 2001 ≤ 32768 → (s72 2001) ≤ 32768 by omega) (show (65 - ((x + r38) + 1)).toNat < m by omega)
      · show tt Zi d 32 (88, [some (.inr (.inl 21)), some (.inr (.inl 27)), some (.inl a_), some (.inl y), some (.inl x)], [], n, D, s18, p, c0) _
        refine tt_k 1 (S' := (89, [some (.inr (.inl 21)), some (.inr (.inl 27)), some (.inl a_), some (.inl y), some (.inl x)], [.inr (.inl 21)], n, D, s18, p, c0)) rfl ?_
        refine tt_cl (by omega) rfl (g_aim21 (Zi := Zi) (q := q) (n := n) (D := D) (s := s18) (p := p) (c := c0) (by omega) hz (by omega) hS18 hC0 hW19 ) ?_
        rintro _ _ ⟨s89, rfl, rfl, hS89, hW90, f91⟩
        show tt Zi d 32 (92, [some (.inr (.inl 21)), some (.inr (.inl 27)), some (.inl a_), some (.inl y), some (.inl x)], [], n, D, s89, p, c0) _
        have e92 : s89 2700 = (s18 2700) := (f91 2700 (by decide))
        have b93 : 0 ≤ (s89 2700) ∧ (s89 2700) ≤ 64 := hS89 2700
        have e94 : s89 2701 = (s18 2701) := (f91 2701 (by decide))
        have b95 : 0 ≤ (s89 2701) ∧ (s89 2701) ≤ 64 := hS89 2701
        have e96 : s89 2702 = (s18 2702) := (f91 2702 (by decide))
        have b97 : 0 ≤ (s89 2702) ∧ (s89 2702) ≤ 3 := hS89 2702
        have e98 : s89 2106 = (s18 2106) := (f91 2106 (by decide))
        have b99 : 0 ≤ (s89 2106) ∧ (s89 2106) ≤ 64 := hS89 2106
        have e100 : s89 2107 = (s18 2107) := (f91 2107 (by decide))
        have b101 : 0 ≤ (s89 2107) ∧ (s89 2107) ≤ 12288 := hS89 2107
        have e102 : s89 2001 = (s18 2001) := (f91 2001 (by decide))
        have b103 : 0 ≤ (s89 2001) ∧ (s89 2001) ≤ 100000 := hS89 2001
        refine tt_k 2 (S' := (95, [some (.inr (.inl 21)), some (.inr (.inl 27)), some (.inl a_), some (.inl y), some (.inl x)], [.inl x, .inr (.inl 21)], n, D, s89, p, c0)) rfl ?_
        refine tt_cl (by omega) rfl (g_tellSample21 (Zi := Zi) (q := q) (n := n) (D := D) (s := s89) (p := p) (c := c0) (by omega) hz (by omega) hS89 hC0 hW90 x (by omega)) ?_
        rintro _ H1 (⟨s104, c105, rfl, rfl, hS104, hC105, hW106, f107, k108⟩ | ⟨rfl, hY109⟩)
        rotate_left
        · exact tt_ax rfl (hX12 _ (cW_mono hY109 (by omega)))
        show tt Zi d 32 (98, [some (.inr (.inl 21)), some (.inr (.inl 27)), some (.inl a_), some (.inl y), some (.inl x)], [], n, D, s104, p, c105) _
        replace k108 : (s89 2001) ≤ 32768 → (s104 2001) ≤ 32768 := k108
        have b110 : 0 ≤ (s104 2001) ∧ (s104 2001) ≤ 100000 := hS104 2001
        have e111 : s104 2700 = (s89 2700) := (f107 2700 (by decide))
        have b112 : 0 ≤ (s104 2700) ∧ (s104 2700) ≤ 64 := hS104 2700
        have e113 : s104 2701 = (s89 2701) := (f107 2701 (by decide))
        have b114 : 0 ≤ (s104 2701) ∧ (s104 2701) ≤ 64 := hS104 2701
        have e115 : s104 2702 = (s89 2702) := (f107 2702 (by decide))
        have b116 : 0 ≤ (s104 2702) ∧ (s104 2702) ≤ 3 := hS104 2702
        have e117 : s104 2106 = (s89 2106) := (f107 2106 (by decide))
        have b118 : 0 ≤ (s104 2106) ∧ (s104 2106) ≤ 64 := hS104 2106
        have e119 : s104 2107 = (s89 2107) := (f107 2107 (by decide))
        have b120 : 0 ≤ (s104 2107) ∧ (s104 2107) ≤ 12288 := hS104 2107
        refine tt_k 3 (S' := (66, [some (.inr (.inl 21)), some (.inr (.inl 27)), some (.inl a_), some (.inl y), some (.inl (x + 1))], [], n, D, s104, p, c105)) rfl ?_
        exact ih (x + 1) s104 c105 (by omega) hS104 (fr_tr (fr_tr (fr_tr hF0 f20 (by decide)) f91 (by decide)) f107 (by decide)) hC105 hW106 (show s 2001 ≤ 32768 → (s104 2001) ≤ 32768 by omega) (show (65 - (x + 1)).toNat < m by omega)

set_option maxRecDepth 100000 in
set_option maxHeartbeats 4000000 in
theorem g_tellPlane21_27_L40 {g : Nat → Int} {Zi : Nat → Option (Nat × (Nat → Int))} {d n q : Nat} {D : Nat → Nat × Nat} {s : Nat → Int} {p : Nat → Nat} {c : Nat → Nat → Int}  {Q : mi_Rs → mi_H → Prop} (hd : 8 ≤ d) (hz : zk Zi) (hq : q + 16 ≤ 400001) (hS : bS s) (hC : bC D c) (hW : wp q g n D p s) (a_ : Int) (b_a_ : 0 ≤ a_ ∧ a_ ≤ 2) (hq0 : s 2700 * s 2701 * s 2702 ≤ (ln D (p 2105) : Int)) (hq1 : s 2106 = s 2700) (hq2 : a_ < s 2702 ∧ 1 ≤ s 2700) (hX12 : ∀ H, cW (q + 1) g H → Q (.inr 12) H)
  (hK : ∀ (y : Int) (o_4 : Option mi_V) (s0 : Nat → Int) (p0 : Nat → Nat) (c0 : Nat → Nat → Int) (b_y : 0 ≤ y ∧ y ≤ 64) (hS0 : bS s0) (hF0 : fr s s0 [902, 2001, 2002, 2003, 2004, 2107, 2108, 2109, 2110, 2111, 2112, 2113, 2114, 2115, 2116]) (hC0 : bC D c0) (hW0 : wp q g n D p0 s0) (hP0 : frp p p0 [2103, 2104]) (i0 : y ≤ s 2701) (i1 : s 2001 ≤ 32768 → s0 2001 ≤ 32768), (True) → tt Zi d 32 (149, [some (.inr (.inl 21)), some (.inr (.inl 27)), some (.inl a_), some (.inl y), o_4], [], n, D, s0, p0, c0) Q) :
  ∀ (m : Nat) (y : Int) (o_4 : Option mi_V) (s0 : Nat → Int) (p0 : Nat → Nat) (c0 : Nat → Nat → Int) (b_y : 0 ≤ y ∧ y ≤ 64) (hS0 : bS s0) (hF0 : fr s s0 [902, 2001, 2002, 2003, 2004, 2107, 2108, 2109, 2110, 2111, 2112, 2113, 2114, 2115, 2116]) (hC0 : bC D c0) (hW0 : wp q g n D p0 s0) (hP0 : frp p p0 [2103, 2104]) (i0 : y ≤ s 2701) (i1 : s 2001 ≤ 32768 → s0 2001 ≤ 32768), (s 2701 - y).toNat < m → tt Zi d 32 (40, [some (.inr (.inl 21)), some (.inr (.inl 27)), some (.inl a_), some (.inl y), o_4], [], n, D, s0, p0, c0) Q := by
  intro m
  induction m with
  | zero => intro y o_4 s0 p0 c0 b_y hS0 hF0 hC0 hW0 hP0 i0 i1 hm; exact absurd hm (by omega)
  | succ m ih =>
    intro y o_4 s0 p0 c0 b_y hS0 hF0 hC0 hW0 hP0 i0 i1 hm
    have e1 : s0 2700 = s 2700 := hF0 2700 (by decide)
    have b2 : 0 ≤ (s0 2700) ∧ (s0 2700) ≤ 64 := hS0 2700
    have b3 : 0 ≤ (s 2700) ∧ (s 2700) ≤ 64 := hS 2700
    have e4 : s0 2701 = s 2701 := hF0 2701 (by decide)
    have b5 : 0 ≤ (s0 2701) ∧ (s0 2701) ≤ 64 := hS0 2701
    have b6 : 0 ≤ (s 2701) ∧ (s 2701) ≤ 64 := hS 2701
    have e7 : s0 2702 = s 2702 := hF0 2702 (by decide)
    have b8 : 0 ≤ (s0 2702) ∧ (s0 2702) ≤ 3 := hS0 2702
    have b9 : 0 ≤ (s 2702) ∧ (s 2702) ≤ 3 := hS 2702
    have e10 : s0 2106 = s 2106 := hF0 2106 (by decide)
    have b11 : 0 ≤ (s0 2106) ∧ (s0 2106) ≤ 64 := hS0 2106
    have b12 : 0 ≤ (s 2106) ∧ (s 2106) ≤ 64 := hS 2106
    have b13 : ln D (p0 2105) ≤ 12288 := (hW0).s21.2.2
    have el : ln D (p0 2105) = ln D (p 2105) := by rw [hP0 2105 (by decide)]
    refine tt_k 3 (S' := (45, [some (.inr (.inl 21)), some (.inr (.inl 27)), some (.inl a_), some (.inl y), o_4], [.inl (s0 2701), .inl y], n, D, s0, p0, c0)) rfl ?_
    refine tb_ge (x := y) (y := (s0 2701)) rfl rfl (by omega) (fun h14 => ?_) (fun h14 => ?_)
    · show tt Zi d 32 (149, [some (.inr (.inl 21)), some (.inr (.inl 27)), some (.inl a_), some (.inl y), o_4], [], n, D, s0, p0, c0) _
      exact hK y (o_4) s0 p0 c0 (by omega) hS0 hF0 hC0 hW0 hP0 (show y ≤ s 2701 by omega) (show s 2001 ≤ 32768 → (s0 2001) ≤ 32768 by omega) trivial
    · show tt Zi d 32 (48, [some (.inr (.inl 21)), some (.inr (.inl 27)), some (.inl a_), some (.inl y), o_4], [], n, D, s0, p0, c0) _
      refine tt_k 5 (S' := (53, [some (.inr (.inl 21)), some (.inr (.inl 27)), some (.inl a_), some (.inl y), o_4], [.inl y, .inl 0, .inl a_, .inr (.inl 27), .inr (.inl 21)], n, D, s0, p0, c0)) rfl ?_
      refine tt_cl (by omega) rfl (g_index27 (Zi := Zi) (q := q) (n := n) (D := D) (s := s0) (p := p0) (c := c0) (by omega) hz (by omega) hS0 hC0 hW0 a_ 0 y (by omega) (by omega) (by omega) (show a_ < (s0 2702) ∧ 0 < (s0 2700) ∧ y < (s0 2701) by omega)) ?_
      rintro _ _ ⟨r15, rfl, rfl, b16, k17, k18⟩
      show tt Zi d 32 (56, [some (.inr (.inl 21)), some (.inr (.inl 27)), some (.inl a_), some (.inl y), o_4], [.inl r15, .inr (.inl 21)], n, D, s0, p0, c0) _
      replace k17 : r15 = (a_ * (s0 2701) + y) * (s0 2700) + 0 := k17
      replace k18 : r15 + (s0 2700) - 0 ≤ (s0 2700) * (s0 2701) * (s0 2702) := k18
      have hmm : (s0 2700) * (s0 2701) * (s0 2702) = s 2700 * s 2701 * s 2702 := by rw [show (s0 2700) = s 2700 by omega, show (s0 2701) = s 2701 by omega, show (s0 2702) = s 2702 by omega]
      refine tt_k 2 (S' := (60, [some (.inr (.inl 21)), some (.inr (.inl 27)), some (.inl a_), some (.inl y), o_4], [.inr (.inl 21)], n, D, (us s0 2107 r15), p0, c0)) rfl ?_
      refine tt_cl (by omega) rfl (g_openRow21 (Zi := Zi) (q := q) (n := n) (D := D) (s := (us s0 2107 r15)) (p := p0) (c := c0) (by omega) hz (by omega) (bS_us hS0 (show 0 ≤ r15 ∧ r15 ≤ 12288 by omega)) hC0 (wp_us (by decide) hW0) ) ?_
      rintro _ _ ⟨p19, c20, rfl, rfl, hC20, hW21, g22⟩
      show tt Zi d 32 (63, [some (.inr (.inl 21)), some (.inr (.inl 27)), some (.inl a_), some (.inl y), o_4], [], n, D, (us s0 2107 r15), p19, c20) _
      have e23 : ln D (p19 2105) = ln D (p0 2105) := (congrArg (ln D) (g22 2105 (by decide)))
      refine tt_k 2 (S' := (66, [some (.inr (.inl 21)), some (.inr (.inl 27)), some (.inl a_), some (.inl y), some (.inl 0)], [], n, D, (us s0 2107 r15), p19, c20)) rfl ?_
      refine g_tellPlane21_27_L66 (Zi := Zi) (q := q) (n := n) (D := D) (s := (us s0 2107 r15)) (p := p19) (c := c20) hd hz (by omega) (bS_us hS0 (show 0 ≤ r15 ∧ r15 ≤ 12288 by omega)) hC20 hW21  a_ y (by omega) (by omega) (show r15 + (s0 2106) ≤ (ln D (p19 2105) : Int) by omega) (fun H h => hX12 H (cW_mono h (by omega))) ?_ _ 0 (us s0 2107 r15) c20 (by omega) (bS_us hS0 (show 0 ≤ r15 ∧ r15 ≤ 12288 by omega)) fr_rf hC20 hW21 (fun h => h) (Nat.lt_succ_self _)
      intro x24 s25 c26 b27 hS25 f28 hC26 hW29 i30 hx31
      show tt Zi d 32 (139, [some (.inr (.inl 21)), some (.inr (.inl 27)), some (.inl a_), some (.inl y), some (.inl x24)], [], n, D, s25, p19, c26) _
      replace i30 : (s0 2001) ≤ 32768 → (s25 2001) ≤ 32768 := i30
      have b32 : 0 ≤ (s25 2001) ∧ (s25 2001) ≤ 100000 := hS25 2001
      have e33 : s25 2700 = (s0 2700) := (f28 2700 (by decide))
      have b34 : 0 ≤ (s25 2700) ∧ (s25 2700) ≤ 64 := hS25 2700
      have e35 : s25 2701 = (s0 2701) := (f28 2701 (by decide))
      have b36 : 0 ≤ (s25 2701) ∧ (s25 2701) ≤ 64 := hS25 2701
      have e37 : s25 2702 = (s0 2702) := (f28 2702 (by decide))
      have b38 : 0 ≤ (s25 2702) ∧ (s25 2702) ≤ 3 := hS25 2702
      have e39 : s25 2106 = (s0 2106) := (f28 2106 (by decide))
      have b40 : 0 ≤ (s25 2106) ∧ (s25 2106) ≤ 64 := hS25 2106
      have e41 : s25 2107 = r15 := (f28 2107 (by decide))
      have b42 : 0 ≤ (s25 2107) ∧ (s25 2107) ≤ 12288 := hS25 2107
      refine tt_k 1 (S' := (140, [some (.inr (.inl 21)), some (.inr (.inl 27)), some (.inl a_), some (.inl y), some (.inl x24)], [.inr (.inl 21)], n, D, s25, p19, c26)) rfl ?_
      refine tt_cl (by omega) rfl (g_closeRow21 (Zi := Zi) (q := q) (n := n) (D := D) (s := s25) (p := p19) (c := c26) (by omega) hz (by omega) hS25 hC26 hW29 (show (s25 2107) + (s25 2106) ≤ (ln D (p19 2105) : Int) by omega)) ?_
      rintro _ _ ⟨c43, rfl, rfl, hC43⟩
      show tt Zi d 32 (143, [some (.inr (.inl 21)), some (.inr (.inl 27)), some (.inl a_), some (.inl y), some (.inl x24)], [], n, D, s25, p19, c43) _
      refine tt_k 2 (S' := (40, [some (.inr (.inl 21)), some (.inr (.inl 27)), some (.inl a_), some (.inl (y + 1)), some (.inl x24)], [], n, D, s25, p19, c43)) rfl ?_
      exact ih (y + 1) (some (.inl x24)) s25 p19 c43 (by omega) hS25 (fr_tr (fr_us (by decide) hF0) f28 (by decide)) hC43 hW29 (frp_tr hP0 g22 (by decide)) (show (y + 1) ≤ s 2701 by omega) (show s 2001 ≤ 32768 → (s25 2001) ≤ 32768 by omega) (show (s 2701 - (y + 1)).toNat < m by omega)
set_option maxRecDepth 100000 in
set_option maxHeartbeats 4000000 in
theorem g_tellPlane21_27 {g : Nat → Int} {Zi : Nat → Option (Nat × (Nat → Int))} {d n q : Nat} {D : Nat → Nat × Nat} {s : Nat → Int} {p : Nat → Nat} {c : Nat → Nat → Int} (hd : 8 ≤ d) (hz : zk Zi) (hq : q + 16 ≤ 400000) (hS : bS s) (hC : bC D c) (hW : wp q g n D p s) (a_ : Int) (b_a_ : 0 ≤ a_ ∧ a_ ≤ 2) (hp0 : a_ < s 2702 ∧ 1 ≤ s 2700) : tt Zi d 32 (0, [some (.inr (.inl 21)), some (.inr (.inl 27)), some (.inl a_), none, none], [], n, D, s, p, c) (fun R H => (∃ (s' : Nat → Int) (p' : Nat → Nat) (c' : Nat → Nat → Int), R = .inl none ∧ H = (n, D, s', p', c') ∧ bS s' ∧ bC D c' ∧ wp q g n D p' s' ∧ fr s s' [902, 2001, 2002, 2003, 2004, 2106, 2107, 2108, 2109, 2110, 2111, 2112, 2113, 2114, 2115, 2116] ∧ frp p p' [900, 901, 2103, 2104, 2105] ∧ (s 2001 ≤ 32768 → s' 2001 ≤ 32768)) ∨ (R = .inr 12 ∧ cW ((q + 1)) g H)) := by
  have b1 : 0 ≤ (s 2700) ∧ (s 2700) ≤ 64 := hS 2700
  have b2 : 0 ≤ (s 2701) ∧ (s 2701) ≤ 64 := hS 2701
  have b3 : 0 ≤ (s 2702) ∧ (s 2702) ≤ 3 := hS 2702
  refine tt_k 13 (S' := (27, [some (.inr (.inl 21)), some (.inr (.inl 27)), some (.inl a_), none, none], [.inl (s 807), .inr (.inl 9)], n, D, (us s 2106 (s 2700)), (up p 2105 (p 2704)), c)) rfl ?_
  have b4 : 0 ≤ (s 807) ∧ (s 807) ≤ 65536 := hS 807
  refine tt_cl (by omega) rfl (g_begin (Zi := Zi) (q := q) (n := n) (D := D) (s := (us s 2106 (s 2700))) (p := (up p 2105 (p 2704))) (c := c) (by omega) hz (by omega) (bS_us hS (show 0 ≤ (s 2700) ∧ (s 2700) ≤ 64 by omega)) hC (wp_us (by decide) (wp_sa21_27 hW)) (s 807) (by omega)) ?_
  rintro _ _ ⟨s5, c6, rfl, rfl, hS5, hC6, hW7, f8⟩
  show tt Zi d 32 (30, [some (.inr (.inl 21)), some (.inr (.inl 27)), some (.inl a_), none, none], [], n, D, s5, (up p 2105 (p 2704)), c6) _
  have e9 : s5 2700 = (s 2700) := (f8 2700 (by decide))
  have b10 : 0 ≤ (s5 2700) ∧ (s5 2700) ≤ 64 := hS5 2700
  have e11 : s5 2701 = (s 2701) := (f8 2701 (by decide))
  have b12 : 0 ≤ (s5 2701) ∧ (s5 2701) ≤ 64 := hS5 2701
  have e13 : s5 2702 = (s 2702) := (f8 2702 (by decide))
  have b14 : 0 ≤ (s5 2702) ∧ (s5 2702) ≤ 3 := hS5 2702
  have e15 : s5 2106 = (s 2700) := (f8 2106 (by decide))
  have b16 : 0 ≤ (s5 2106) ∧ (s5 2106) ≤ 64 := hS5 2106
  have e17 : s5 2107 = (s 2107) := (f8 2107 (by decide))
  have b18 : 0 ≤ (s5 2107) ∧ (s5 2107) ≤ 12288 := hS5 2107
  have b19 : 0 ≤ (s 2107) ∧ (s 2107) ≤ 12288 := hS 2107
  have e20 : s5 2001 = (s 2001) := (f8 2001 (by decide))
  have b21 : 0 ≤ (s5 2001) ∧ (s5 2001) ≤ 100000 := hS5 2001
  have b22 : 0 ≤ (s 2001) ∧ (s 2001) ≤ 100000 := hS 2001
  refine tt_k 3 (S' := (35, [some (.inr (.inl 21)), some (.inr (.inl 27)), some (.inl a_), none, none], [.inl 0, .inr (.inl (p 2104))], n, D, s5, (up p 2105 (p 2704)), c6)) rfl ?_
  refine tt_cl (by omega) rfl (g_fill (A := (p 2104)) (m := 66) (s := s5) (p := (up p 2105 (p 2704))) ((sw_arr (hW7).a21 rfl rfl).2) (by omega) (by rw [(show bC_lo D (p 2104) = 0 ∧ bC_hi D (p 2104) = 65535 from ((sw_21 (hW7).a21).2)).1, (show bC_lo D (p 2104) = 0 ∧ bC_hi D (p 2104) = 65535 from ((sw_21 (hW7).a21).2)).2]; decide) hC6) ?_
  rintro _ _ ⟨c23, rfl, rfl, hC23⟩
  show tt Zi d 32 (38, [some (.inr (.inl 21)), some (.inr (.inl 27)), some (.inl a_), none, none], [], n, D, s5, (up p 2105 (p 2704)), c23) _
  refine tt_k 2 (S' := (40, [some (.inr (.inl 21)), some (.inr (.inl 27)), some (.inl a_), some (.inl 0), none], [], n, D, s5, (up p 2105 (p 2704)), c23)) rfl ?_
  refine g_tellPlane21_27_L40 (Zi := Zi) (q := q) (n := n) (D := D) (s := s5) (p := (up p 2105 (p 2704))) (c := c23) hd hz (by omega) hS5 hC23 hW7  a_ (by omega) (show _ from (hW7).w27) (show (s5 2106) = (s5 2700) by omega) (show a_ < (s5 2702) ∧ 1 ≤ (s5 2700) by omega) (fun H h => (Or.inr ⟨rfl, cW_mono h (by omega)⟩)) ?_ _ 0 (none) s5 (up p 2105 (p 2704)) c23 (by omega) hS5 fr_rf hC23 hW7 frp_rf (show 0 ≤ (s5 2701) by omega) (fun h => h) (Nat.lt_succ_self _)
  intro x24 x25 s26 p27 c28 b29 hS26 f30 hC28 hW31 g32 i33 i34 hx35
  show tt Zi d 32 (149, [some (.inr (.inl 21)), some (.inr (.inl 27)), some (.inl a_), some (.inl x24), x25], [], n, D, s26, p27, c28) _
  replace i33 : x24 ≤ (s5 2701) := i33
  replace i34 : (s5 2001) ≤ 32768 → (s26 2001) ≤ 32768 := i34
  have b36 : 0 ≤ (s26 2001) ∧ (s26 2001) ≤ 100000 := hS26 2001
  have e37 : s26 2700 = (s5 2700) := (f30 2700 (by decide))
  have b38 : 0 ≤ (s26 2700) ∧ (s26 2700) ≤ 64 := hS26 2700
  have e39 : s26 2701 = (s5 2701) := (f30 2701 (by decide))
  have b40 : 0 ≤ (s26 2701) ∧ (s26 2701) ≤ 64 := hS26 2701
  have e41 : s26 2702 = (s5 2702) := (f30 2702 (by decide))
  have b42 : 0 ≤ (s26 2702) ∧ (s26 2702) ≤ 3 := hS26 2702
  have e43 : s26 2106 = (s5 2106) := (f30 2106 (by decide))
  have b44 : 0 ≤ (s26 2106) ∧ (s26 2106) ≤ 64 := hS26 2106
  have e45 : ln D (p27 2105) = ln D (p 2704) := (congrArg (ln D) (g32 2105 (by decide)))
  refine tt_k 2 (S' := (153, [some (.inr (.inl 21)), some (.inr (.inl 27)), some (.inl a_), some (.inl x24), x25], [.inr (.inl 9)], n, D, s26, p27, c28)) rfl ?_
  refine tt_cl (by omega) rfl (g_keep (Zi := Zi) (q := q) (n := n) (D := D) (s := s26) (p := p27) (c := c28) (by omega) hz (by omega) hS26 hC28 hW31 ) ?_
  rintro _ _ ⟨p46, rfl, rfl, hW47, g48⟩
  show tt Zi d 32 (156, [some (.inr (.inl 21)), some (.inr (.inl 27)), some (.inl a_), some (.inl x24), x25], [], n, D, s26, p46, c28) _
  have e49 : ln D (p46 2105) = ln D (p27 2105) := (congrArg (ln D) (g48 2105 (by decide)))
  exact tt_rtv rfl rfl (Or.inl ⟨s26, p46, c28, rfl, rfl, hS26, hC28, hW47, (fr_tr (fr_tr (fr_us (by decide) fr_rf) f8 (by decide)) f30 (by decide)), (frp_tr (frp_tr (frp_up (by decide) frp_rf) g32 (by decide)) g48 (by decide)), by show s 2001 ≤ 32768 → (s26 2001) ≤ 32768; omega⟩)
