/-! the class's plane -/
set_option maxRecDepth 100000 in
set_option maxHeartbeats 4000000 in
theorem g_tellPlane12_1_L66 {g : Nat → Int} {Zi : Nat → Option (Nat × (Nat → Int))} {d n q : Nat} {D : Nat → Nat × Nat} {s : Nat → Int} {p : Nat → Nat} {c : Nat → Nat → Int}  {Q : mi_Rs → mi_H → Prop} (hd : 5 ≤ d) (hz : zk Zi) (hq : q + 10 ≤ 400001) (hD : wd n p) (hS : bS s) (hC : bC D c) (hW : wp q g n D p s) (U : Int) (a_ : Int) (y : Int) (b_a_ : 0 ≤ a_ ∧ a_ ≤ 2) (b_y : 0 ≤ y ∧ y ≤ 63) (hq0 : s 1207 + s 1206 ≤ (ln D (p 1205) : Int)) (hq1 : 0 ≤ s 801 ∧ s 801 ≤ 255) (hq2 : U + 457600 ≤ 1834000)
  (hK : ∀ (x : Int) (n0 : Nat) (D0 : Nat → Nat × Nat) (s0 : Nat → Int) (p0 : Nat → Nat) (c0 : Nat → Nat → Int) (b_x : 0 ≤ x ∧ x ≤ 65) (hS0 : bS s0) (hF0 : fr s s0 [401, 902, 1208, 1209, 1210, 1211, 1212, 1213, 1214, 1215, 1216, 1601, 1602]) (hC0 : bC D0 c0) (hW0 : wp q g n0 D0 p0 s0) (hP0 : frp p p0 [400]) (hE0 : ext n D n0 D0) (hK0 : fk p c n0 p0 c0 [400, 900, 901, 1203, 1204]) (hc_wo : wo s0) (i0 : 7 * s0 401 - s0 1602 ≤ U + 110 * x + 7150 * y), (True) → tt Zi d 32 (139, [some (.inr (.inl 12)), some (.inr (.inl 1)), some (.inl a_), some (.inl y), some (.inl x)], [], n0, D0, s0, p0, c0) Q) :
  ∀ (m : Nat) (x : Int) (n0 : Nat) (D0 : Nat → Nat × Nat) (s0 : Nat → Int) (p0 : Nat → Nat) (c0 : Nat → Nat → Int) (b_x : 0 ≤ x ∧ x ≤ 65) (hS0 : bS s0) (hF0 : fr s s0 [401, 902, 1208, 1209, 1210, 1211, 1212, 1213, 1214, 1215, 1216, 1601, 1602]) (hC0 : bC D0 c0) (hW0 : wp q g n0 D0 p0 s0) (hP0 : frp p p0 [400]) (hE0 : ext n D n0 D0) (hK0 : fk p c n0 p0 c0 [400, 900, 901, 1203, 1204]) (hc_wo : wo s0) (i0 : 7 * s0 401 - s0 1602 ≤ U + 110 * x + 7150 * y), (65 - x).toNat < m → tt Zi d 32 (66, [some (.inr (.inl 12)), some (.inr (.inl 1)), some (.inl a_), some (.inl y), some (.inl x)], [], n0, D0, s0, p0, c0) Q := by
  intro m
  induction m with
  | zero => intro x n0 D0 s0 p0 c0 b_x hS0 hF0 hC0 hW0 hP0 hE0 hK0 hc_wo i0 hm; exact absurd hm (by omega)
  | succ m ih =>
    intro x n0 D0 s0 p0 c0 b_x hS0 hF0 hC0 hW0 hP0 hE0 hK0 hc_wo i0 hm
    have e1 : s0 100 = s 100 := hF0 100 (by decide)
    have b2 : 1 ≤ (s0 100) ∧ (s0 100) ≤ 64 := hS0 100
    have b3 : 1 ≤ (s 100) ∧ (s 100) ≤ 64 := hS 100
    have e4 : s0 101 = s 101 := hF0 101 (by decide)
    have b5 : 1 ≤ (s0 101) ∧ (s0 101) ≤ 64 := hS0 101
    have b6 : 1 ≤ (s 101) ∧ (s 101) ≤ 64 := hS 101
    have e7 : s0 102 = s 102 := hF0 102 (by decide)
    have b8 : 1 ≤ (s0 102) ∧ (s0 102) ≤ 3 := hS0 102
    have b9 : 1 ≤ (s 102) ∧ (s 102) ≤ 3 := hS 102
    have e10 : s0 1206 = s 1206 := hF0 1206 (by decide)
    have b11 : 0 ≤ (s0 1206) ∧ (s0 1206) ≤ 64 := hS0 1206
    have b12 : 0 ≤ (s 1206) ∧ (s 1206) ≤ 64 := hS 1206
    have e13 : s0 1207 = s 1207 := hF0 1207 (by decide)
    have b14 : 0 ≤ (s0 1207) ∧ (s0 1207) ≤ 12288 := hS0 1207
    have b15 : 0 ≤ (s 1207) ∧ (s 1207) ≤ 12288 := hS 1207
    have e16 : s0 801 = s 801 := hF0 801 (by decide)
    have b17 : -2147483648 ≤ (s0 801) ∧ (s0 801) ≤ 2147483647 := hS0 801
    have b18 : -2147483648 ≤ (s 801) ∧ (s 801) ≤ 2147483647 := hS 801
    have b19 : ln D0 (p0 1205) ≤ 12288 := (hW0).s12.2.2
    have el : ln D0 (p0 1205) = ln D (p 1205) := by rw [hP0 1205 (by decide)]; exact ext_ln hE0 (arr_lt hW.s12.1)
    refine tt_k 3 (S' := (72, [some (.inr (.inl 12)), some (.inr (.inl 1)), some (.inl a_), some (.inl y), some (.inl x)], [.inl (s0 1206), .inl x], n0, D0, s0, p0, c0)) rfl ?_
    refine tb_ge (x := x) (y := (s0 1206)) rfl rfl (by omega) (fun h20 => ?_) (fun h20 => ?_)
    · show tt Zi d 32 (139, [some (.inr (.inl 12)), some (.inr (.inl 1)), some (.inl a_), some (.inl y), some (.inl x)], [], n0, D0, s0, p0, c0) _
      exact hK x n0 D0 s0 p0 c0 (by omega) hS0 hF0 hC0 hW0 hP0 hE0 hK0 hc_wo (show 7 * (s0 401) - (s0 1602) ≤ U + 110 * x + 7150 * y by omega) trivial
    · show tt Zi d 32 (75, [some (.inr (.inl 12)), some (.inr (.inl 1)), some (.inl a_), some (.inl y), some (.inl x)], [], n0, D0, s0, p0, c0) _
      refine tt_k 2 (S' := (78, [some (.inr (.inl 12)), some (.inr (.inl 1)), some (.inl a_), some (.inl y), some (.inl x)], [.inl x, .inr (.inl 12)], n0, D0, s0, p0, c0)) rfl ?_
      refine tt_cl (by omega) rfl (g_look12 (Zi := Zi) (q := q) (n := n0) (D := D0) (s := s0) (p := p0) (c := c0) (by omega) hz (by omega) hK0.1 hS0 hC0 hW0 x (by omega)) ?_
      rintro _ _ ⟨s21, rfl, rfl, hS21, hW22, f23⟩
      have hc24 : wo s21 := wo_fr f23 (by decide) hc_wo
      show tt Zi d 32 (81, [some (.inr (.inl 12)), some (.inr (.inl 1)), some (.inl a_), some (.inl y), some (.inl x)], [], n0, D0, s21, p0, c0) _
      have e25 : s21 100 = (s0 100) := (f23 100 (by decide))
      have b26 : 1 ≤ (s21 100) ∧ (s21 100) ≤ 64 := hS21 100
      have e27 : s21 101 = (s0 101) := (f23 101 (by decide))
      have b28 : 1 ≤ (s21 101) ∧ (s21 101) ≤ 64 := hS21 101
      have e29 : s21 102 = (s0 102) := (f23 102 (by decide))
      have b30 : 1 ≤ (s21 102) ∧ (s21 102) ≤ 3 := hS21 102
      have e31 : s21 1206 = (s0 1206) := (f23 1206 (by decide))
      have b32 : 0 ≤ (s21 1206) ∧ (s21 1206) ≤ 64 := hS21 1206
      have e33 : s21 1207 = (s0 1207) := (f23 1207 (by decide))
      have b34 : 0 ≤ (s21 1207) ∧ (s21 1207) ≤ 12288 := hS21 1207
      have e35 : s21 801 = (s0 801) := (f23 801 (by decide))
      have b36 : -2147483648 ≤ (s21 801) ∧ (s21 801) ≤ 2147483647 := hS21 801
      have e37 : s21 401 = (s0 401) := (f23 401 (by decide))
      have b38 : 0 ≤ (s21 401) ∧ (s21 401) ≤ 262144 := hS21 401
      have b39 : 0 ≤ (s0 401) ∧ (s0 401) ≤ 262144 := hS0 401
      have e40 : s21 1602 = (s0 1602) := (f23 1602 (by decide))
      have b41 : 1 ≤ (s21 1602) ∧ (s21 1602) ≤ 8 := hS21 1602
      have b42 : 1 ≤ (s0 1602) ∧ (s0 1602) ≤ 8 := hS0 1602
      refine tt_k 2 (S' := (85, [some (.inr (.inl 12)), some (.inr (.inl 1)), some (.inl a_), some (.inl y), some (.inl x)], [.inl (s21 1211)], n0, D0, s21, p0, c0)) rfl ?_
      have b43 : 0 ≤ (s21 1211) ∧ (s21 1211) ≤ 366 := hS21 1211
      refine tz_eq (x := (s21 1211)) rfl rfl (by omega) (fun h44 => ?_) (fun h44 => ?_)
      · show tt Zi d 32 (101, [some (.inr (.inl 12)), some (.inr (.inl 1)), some (.inl a_), some (.inl y), some (.inl x)], [], n0, D0, s21, p0, c0) _
        refine tt_k 3 (S' := (106, [some (.inr (.inl 12)), some (.inr (.inl 1)), some (.inl a_), some (.inl y), some (.inl x)], [.inl x, .inr (.inl 12), .inl x], n0, D0, s21, p0, c0)) rfl ?_
        refine tt_cl (by omega) rfl (g_tellRun12 (Zi := Zi) (q := q) (n := n0) (D := D0) (s := s21) (p := p0) (c := c0) (by omega) hz (by omega) hK0.1 hS21 hC0 hW22 x (by omega) hc24 (show 7 * (s21 401) - (s21 1602) + 300 ≤ 1834990 by omega) (show (s21 1207) + (s21 1206) ≤ (ln D0 (p0 1205) : Int) by omega) (show x < (s21 1206) by omega)) ?_
        rintro _ _ ⟨n45, D46, s47, p48, c49, r50, rfl, rfl, hS47, hC49, hW51, f52, g53, xe54, kf55, b56, k57, k58, k59⟩
        have FK60 : fk p c n45 p48 c49 [400, 900, 901, 1203, 1204] := fk_tr hK0 kf55 (by decide)
        show tt Zi d 32 (109, [some (.inr (.inl 12)), some (.inr (.inl 1)), some (.inl a_), some (.inl y), some (.inl x)], [.inl r50, .inl x], n45, D46, s47, p48, c49) _
        replace k58 : x + r50 ≤ (s21 1206) := k58
        replace k59 : 7 * (s47 401) - (s47 1602) ≤ 7 * (s21 401) - (s21 1602) + r50 + 16 := k59
        have b61 : 0 ≤ (s47 401) ∧ (s47 401) ≤ 262144 := hS47 401
        have b62 : 1 ≤ (s47 1602) ∧ (s47 1602) ≤ 8 := hS47 1602
        have e63 : s47 100 = (s21 100) := (f52 100 (by decide))
        have b64 : 1 ≤ (s47 100) ∧ (s47 100) ≤ 64 := hS47 100
        have e65 : s47 101 = (s21 101) := (f52 101 (by decide))
        have b66 : 1 ≤ (s47 101) ∧ (s47 101) ≤ 64 := hS47 101
        have e67 : s47 102 = (s21 102) := (f52 102 (by decide))
        have b68 : 1 ≤ (s47 102) ∧ (s47 102) ≤ 3 := hS47 102
        have e69 : s47 1206 = (s21 1206) := (f52 1206 (by decide))
        have b70 : 0 ≤ (s47 1206) ∧ (s47 1206) ≤ 64 := hS47 1206
        have e71 : s47 1207 = (s21 1207) := (f52 1207 (by decide))
        have b72 : 0 ≤ (s47 1207) ∧ (s47 1207) ≤ 12288 := hS47 1207
        have e73 : s47 801 = (s21 801) := (f52 801 (by decide))
        have b74 : -2147483648 ≤ (s47 801) ∧ (s47 801) ≤ 2147483647 := hS47 801
        have e75 : ln D46 (p48 1205) = ln D0 (p0 1205) := (congrArg (ln D46) (g53 1205 (by decide))).trans (ext_ln xe54 (arr_lt (hW22).s12.1))
        refine tt_k 5 (S' := (118, [some (.inr (.inl 12)), some (.inr (.inl 1)), some (.inl a_), some (.inl y), some (.inl (x + r50))], [.inl (s47 1206), .inl (x + r50)], n45, D46, s47, p48, c49)) rfl ?_
        refine tb_ge (x := (x + r50)) (y := (s47 1206)) rfl rfl (by omega) (fun h76 => ?_) (fun h76 => ?_)
        · show tt Zi d 32 (133, [some (.inr (.inl 12)), some (.inr (.inl 1)), some (.inl a_), some (.inl y), some (.inl (x + r50))], [], n45, D46, s47, p48, c49) _
          refine tt_k 2 (S' := (66, [some (.inr (.inl 12)), some (.inr (.inl 1)), some (.inl a_), some (.inl y), some (.inl ((x + r50) + 1))], [], n45, D46, s47, p48, c49)) rfl ?_
          exact ih ((x + r50) + 1) n45 D46 s47 p48 c49 (by omega) hS47 (fr_tr (fr_tr hF0 f23 (by decide)) f52 (by decide)) hC49 hW51 (frp_tr hP0 g53 (by decide)) (ext_tr hE0 xe54) FK60 k57 (show 7 * (s47 401) - (s47 1602) ≤ U + 110 * ((x + r50) + 1) + 7150 * y by omega) (show (65 - ((x + r50) + 1)).toNat < m by omega)
        · show tt Zi d 32 (121, [some (.inr (.inl 12)), some (.inr (.inl 1)), some (.inl a_), some (.inl y), some (.inl (x + r50))], [], n45, D46, s47, p48, c49) _
          refine tt_k 2 (S' := (124, [some (.inr (.inl 12)), some (.inr (.inl 1)), some (.inl a_), some (.inl y), some (.inl (x + r50))], [.inl (x + r50), .inr (.inl 12)], n45, D46, s47, p48, c49)) rfl ?_
          refine tt_cl (by omega) rfl (g_aimStop12 (Zi := Zi) (q := q) (n := n45) (D := D46) (s := s47) (p := p48) (c := c49) (by omega) hz (by omega) FK60.1 hS47 hC49 hW51 (x + r50) (by omega)) ?_
          rintro _ _ ⟨s77, rfl, rfl, hS77, hW78, f79⟩
          have hc80 : wo s77 := wo_fr f79 (by decide) k57
          show tt Zi d 32 (127, [some (.inr (.inl 12)), some (.inr (.inl 1)), some (.inl a_), some (.inl y), some (.inl (x + r50))], [], n45, D46, s77, p48, c49) _
          have e81 : s77 100 = (s47 100) := (f79 100 (by decide))
          have b82 : 1 ≤ (s77 100) ∧ (s77 100) ≤ 64 := hS77 100
          have e83 : s77 101 = (s47 101) := (f79 101 (by decide))
          have b84 : 1 ≤ (s77 101) ∧ (s77 101) ≤ 64 := hS77 101
          have e85 : s77 102 = (s47 102) := (f79 102 (by decide))
          have b86 : 1 ≤ (s77 102) ∧ (s77 102) ≤ 3 := hS77 102
          have e87 : s77 1206 = (s47 1206) := (f79 1206 (by decide))
          have b88 : 0 ≤ (s77 1206) ∧ (s77 1206) ≤ 64 := hS77 1206
          have e89 : s77 1207 = (s47 1207) := (f79 1207 (by decide))
          have b90 : 0 ≤ (s77 1207) ∧ (s77 1207) ≤ 12288 := hS77 1207
          have e91 : s77 801 = (s47 801) := (f79 801 (by decide))
          have b92 : -2147483648 ≤ (s77 801) ∧ (s77 801) ≤ 2147483647 := hS77 801
          have e93 : s77 401 = (s47 401) := (f79 401 (by decide))
          have b94 : 0 ≤ (s77 401) ∧ (s77 401) ≤ 262144 := hS77 401
          have e95 : s77 1602 = (s47 1602) := (f79 1602 (by decide))
          have b96 : 1 ≤ (s77 1602) ∧ (s77 1602) ≤ 8 := hS77 1602
          refine tt_k 2 (S' := (130, [some (.inr (.inl 12)), some (.inr (.inl 1)), some (.inl a_), some (.inl y), some (.inl (x + r50))], [.inl (x + r50), .inr (.inl 12)], n45, D46, s77, p48, c49)) rfl ?_
          refine tt_cl (by omega) rfl (g_tellStop12 (Zi := Zi) (q := q) (n := n45) (D := D46) (s := s77) (p := p48) (c := c49) (by omega) hz (by omega) FK60.1 hS77 hC49 hW78 (x + r50) (by omega) hc80 (show 7 * (s77 401) - (s77 1602) + 300 ≤ 1834990 by omega) (show (s77 1207) + (x + r50) < (ln D46 (p48 1205) : Int) by omega) (show 0 ≤ (s77 801) ∧ (s77 801) ≤ 255 by omega)) ?_
          rintro _ _ ⟨n97, D98, s99, p100, c101, rfl, rfl, hS99, hC101, hW102, f103, g104, xe105, kf106, k107, k108⟩
          have FK109 : fk p c n97 p100 c101 [400, 900, 901, 1203, 1204] := fk_tr FK60 kf106 (by decide)
          show tt Zi d 32 (133, [some (.inr (.inl 12)), some (.inr (.inl 1)), some (.inl a_), some (.inl y), some (.inl (x + r50))], [], n97, D98, s99, p100, c101) _
          replace k108 : 7 * (s99 401) - (s99 1602) ≤ 7 * (s77 401) - (s77 1602) + 94 := k108
          have b110 : 0 ≤ (s99 401) ∧ (s99 401) ≤ 262144 := hS99 401
          have b111 : 1 ≤ (s99 1602) ∧ (s99 1602) ≤ 8 := hS99 1602
          have e112 : s99 100 = (s77 100) := (f103 100 (by decide))
          have b113 : 1 ≤ (s99 100) ∧ (s99 100) ≤ 64 := hS99 100
          have e114 : s99 101 = (s77 101) := (f103 101 (by decide))
          have b115 : 1 ≤ (s99 101) ∧ (s99 101) ≤ 64 := hS99 101
          have e116 : s99 102 = (s77 102) := (f103 102 (by decide))
          have b117 : 1 ≤ (s99 102) ∧ (s99 102) ≤ 3 := hS99 102
          have e118 : s99 1206 = (s77 1206) := (f103 1206 (by decide))
          have b119 : 0 ≤ (s99 1206) ∧ (s99 1206) ≤ 64 := hS99 1206
          have e120 : s99 1207 = (s77 1207) := (f103 1207 (by decide))
          have b121 : 0 ≤ (s99 1207) ∧ (s99 1207) ≤ 12288 := hS99 1207
          have e122 : s99 801 = (s77 801) := (f103 801 (by decide))
          have b123 : -2147483648 ≤ (s99 801) ∧ (s99 801) ≤ 2147483647 := hS99 801
          have e124 : ln D98 (p100 1205) = ln D46 (p48 1205) := (congrArg (ln D98) (g104 1205 (by decide))).trans (ext_ln xe105 (arr_lt (hW78).s12.1))
          refine tt_k 2 (S' := (66, [some (.inr (.inl 12)), some (.inr (.inl 1)), some (.inl a_), some (.inl y), some (.inl ((x + r50) + 1))], [], n97, D98, s99, p100, c101)) rfl ?_
          exact ih ((x + r50) + 1) n97 D98 s99 p100 c101 (by omega) hS99 (fr_tr (fr_tr (fr_tr (fr_tr hF0 f23 (by decide)) f52 (by decide)) f79 (by decide)) f103 (by decide)) hC101 hW102 (frp_tr (frp_tr hP0 g53 (by decide)) g104 (by decide)) (ext_tr (ext_tr hE0 xe54) xe105) FK109 k107 (show 7 * (s99 401) - (s99 1602) ≤ U + 110 * ((x + r50) + 1) + 7150 * y by omega) (show (65 - ((x + r50) + 1)).toNat < m by omega)
      · show tt Zi d 32 (88, [some (.inr (.inl 12)), some (.inr (.inl 1)), some (.inl a_), some (.inl y), some (.inl x)], [], n0, D0, s21, p0, c0) _
        refine tt_k 1 (S' := (89, [some (.inr (.inl 12)), some (.inr (.inl 1)), some (.inl a_), some (.inl y), some (.inl x)], [.inr (.inl 12)], n0, D0, s21, p0, c0)) rfl ?_
        refine tt_cl (by omega) rfl (g_aim12 (Zi := Zi) (q := q) (n := n0) (D := D0) (s := s21) (p := p0) (c := c0) (by omega) hz (by omega) hK0.1 hS21 hC0 hW22 ) ?_
        rintro _ _ ⟨s125, rfl, rfl, hS125, hW126, f127⟩
        have hc128 : wo s125 := wo_fr f127 (by decide) hc24
        show tt Zi d 32 (92, [some (.inr (.inl 12)), some (.inr (.inl 1)), some (.inl a_), some (.inl y), some (.inl x)], [], n0, D0, s125, p0, c0) _
        have e129 : s125 100 = (s21 100) := (f127 100 (by decide))
        have b130 : 1 ≤ (s125 100) ∧ (s125 100) ≤ 64 := hS125 100
        have e131 : s125 101 = (s21 101) := (f127 101 (by decide))
        have b132 : 1 ≤ (s125 101) ∧ (s125 101) ≤ 64 := hS125 101
        have e133 : s125 102 = (s21 102) := (f127 102 (by decide))
        have b134 : 1 ≤ (s125 102) ∧ (s125 102) ≤ 3 := hS125 102
        have e135 : s125 1206 = (s21 1206) := (f127 1206 (by decide))
        have b136 : 0 ≤ (s125 1206) ∧ (s125 1206) ≤ 64 := hS125 1206
        have e137 : s125 1207 = (s21 1207) := (f127 1207 (by decide))
        have b138 : 0 ≤ (s125 1207) ∧ (s125 1207) ≤ 12288 := hS125 1207
        have e139 : s125 801 = (s21 801) := (f127 801 (by decide))
        have b140 : -2147483648 ≤ (s125 801) ∧ (s125 801) ≤ 2147483647 := hS125 801
        have e141 : s125 401 = (s21 401) := (f127 401 (by decide))
        have b142 : 0 ≤ (s125 401) ∧ (s125 401) ≤ 262144 := hS125 401
        have e143 : s125 1602 = (s21 1602) := (f127 1602 (by decide))
        have b144 : 1 ≤ (s125 1602) ∧ (s125 1602) ≤ 8 := hS125 1602
        refine tt_k 2 (S' := (95, [some (.inr (.inl 12)), some (.inr (.inl 1)), some (.inl a_), some (.inl y), some (.inl x)], [.inl x, .inr (.inl 12)], n0, D0, s125, p0, c0)) rfl ?_
        refine tt_cl (by omega) rfl (g_tellSample12 (Zi := Zi) (q := q) (n := n0) (D := D0) (s := s125) (p := p0) (c := c0) (by omega) hz (by omega) hK0.1 hS125 hC0 hW126 x (by omega) hc128 (show 7 * (s125 401) - (s125 1602) + 300 ≤ 1834990 by omega) (show (s125 1207) + x < (ln D0 (p0 1205) : Int) by omega) (show 0 ≤ (s125 801) ∧ (s125 801) ≤ 255 by omega)) ?_
        rintro _ _ ⟨n145, D146, s147, p148, c149, rfl, rfl, hS147, hC149, hW150, f151, g152, xe153, kf154, k155, k156⟩
        have FK157 : fk p c n145 p148 c149 [400, 900, 901, 1203, 1204] := fk_tr hK0 kf154 (by decide)
        show tt Zi d 32 (98, [some (.inr (.inl 12)), some (.inr (.inl 1)), some (.inl a_), some (.inl y), some (.inl x)], [], n145, D146, s147, p148, c149) _
        replace k156 : 7 * (s147 401) - (s147 1602) ≤ 7 * (s125 401) - (s125 1602) + 94 := k156
        have b158 : 0 ≤ (s147 401) ∧ (s147 401) ≤ 262144 := hS147 401
        have b159 : 1 ≤ (s147 1602) ∧ (s147 1602) ≤ 8 := hS147 1602
        have e160 : s147 100 = (s125 100) := (f151 100 (by decide))
        have b161 : 1 ≤ (s147 100) ∧ (s147 100) ≤ 64 := hS147 100
        have e162 : s147 101 = (s125 101) := (f151 101 (by decide))
        have b163 : 1 ≤ (s147 101) ∧ (s147 101) ≤ 64 := hS147 101
        have e164 : s147 102 = (s125 102) := (f151 102 (by decide))
        have b165 : 1 ≤ (s147 102) ∧ (s147 102) ≤ 3 := hS147 102
        have e166 : s147 1206 = (s125 1206) := (f151 1206 (by decide))
        have b167 : 0 ≤ (s147 1206) ∧ (s147 1206) ≤ 64 := hS147 1206
        have e168 : s147 1207 = (s125 1207) := (f151 1207 (by decide))
        have b169 : 0 ≤ (s147 1207) ∧ (s147 1207) ≤ 12288 := hS147 1207
        have e170 : s147 801 = (s125 801) := (f151 801 (by decide))
        have b171 : -2147483648 ≤ (s147 801) ∧ (s147 801) ≤ 2147483647 := hS147 801
        have e172 : ln D146 (p148 1205) = ln D0 (p0 1205) := (congrArg (ln D146) (g152 1205 (by decide))).trans (ext_ln xe153 (arr_lt (hW126).s12.1))
        refine tt_k 3 (S' := (66, [some (.inr (.inl 12)), some (.inr (.inl 1)), some (.inl a_), some (.inl y), some (.inl (x + 1))], [], n145, D146, s147, p148, c149)) rfl ?_
        exact ih (x + 1) n145 D146 s147 p148 c149 (by omega) hS147 (fr_tr (fr_tr (fr_tr hF0 f23 (by decide)) f127 (by decide)) f151 (by decide)) hC149 hW150 (frp_tr hP0 g152 (by decide)) (ext_tr hE0 xe153) FK157 k155 (show 7 * (s147 401) - (s147 1602) ≤ U + 110 * (x + 1) + 7150 * y by omega) (show (65 - (x + 1)).toNat < m by omega)

set_option maxRecDepth 100000 in
set_option maxHeartbeats 4000000 in
theorem g_tellPlane12_1_L40 {g : Nat → Int} {Zi : Nat → Option (Nat × (Nat → Int))} {d n q : Nat} {D : Nat → Nat × Nat} {s : Nat → Int} {p : Nat → Nat} {c : Nat → Nat → Int}  {Q : mi_Rs → mi_H → Prop} (hd : 5 ≤ d) (hz : zk Zi) (hq : q + 10 ≤ 400001) (hD : wd n p) (hS : bS s) (hC : bC D c) (hW : wp q g n D p s) (U : Int) (a_ : Int) (b_a_ : 0 ≤ a_ ∧ a_ ≤ 2) (hq0 : s 100 * s 101 * s 102 ≤ (ln D (p 1205) : Int)) (hq1 : s 1206 = s 100) (hq2 : a_ < s 102 ∧ 1 ≤ s 100) (hq3 : 0 ≤ s 801 ∧ s 801 ≤ 255) (hq4 : U + 457600 ≤ 1834000)
  (hK : ∀ (y : Int) (o_4 : Option mi_V) (n0 : Nat) (D0 : Nat → Nat × Nat) (s0 : Nat → Int) (p0 : Nat → Nat) (c0 : Nat → Nat → Int) (b_y : 0 ≤ y ∧ y ≤ 64) (hS0 : bS s0) (hF0 : fr s s0 [401, 902, 1207, 1208, 1209, 1210, 1211, 1212, 1213, 1214, 1215, 1216, 1601, 1602]) (hC0 : bC D0 c0) (hW0 : wp q g n0 D0 p0 s0) (hP0 : frp p p0 [400, 1203, 1204]) (hE0 : ext n D n0 D0) (hK0 : fk p c n0 p0 c0 [400, 900, 901, 1203, 1204]) (hc_wo : wo s0) (i0 : y ≤ s 101) (i1 : 7 * s0 401 - s0 1602 ≤ U + 110 * 0 + 7150 * y), (True) → tt Zi d 32 (149, [some (.inr (.inl 12)), some (.inr (.inl 1)), some (.inl a_), some (.inl y), o_4], [], n0, D0, s0, p0, c0) Q) :
  ∀ (m : Nat) (y : Int) (o_4 : Option mi_V) (n0 : Nat) (D0 : Nat → Nat × Nat) (s0 : Nat → Int) (p0 : Nat → Nat) (c0 : Nat → Nat → Int) (b_y : 0 ≤ y ∧ y ≤ 64) (hS0 : bS s0) (hF0 : fr s s0 [401, 902, 1207, 1208, 1209, 1210, 1211, 1212, 1213, 1214, 1215, 1216, 1601, 1602]) (hC0 : bC D0 c0) (hW0 : wp q g n0 D0 p0 s0) (hP0 : frp p p0 [400, 1203, 1204]) (hE0 : ext n D n0 D0) (hK0 : fk p c n0 p0 c0 [400, 900, 901, 1203, 1204]) (hc_wo : wo s0) (i0 : y ≤ s 101) (i1 : 7 * s0 401 - s0 1602 ≤ U + 110 * 0 + 7150 * y), (s 101 - y).toNat < m → tt Zi d 32 (40, [some (.inr (.inl 12)), some (.inr (.inl 1)), some (.inl a_), some (.inl y), o_4], [], n0, D0, s0, p0, c0) Q := by
  intro m
  induction m with
  | zero => intro y o_4 n0 D0 s0 p0 c0 b_y hS0 hF0 hC0 hW0 hP0 hE0 hK0 hc_wo i0 i1 hm; exact absurd hm (by omega)
  | succ m ih =>
    intro y o_4 n0 D0 s0 p0 c0 b_y hS0 hF0 hC0 hW0 hP0 hE0 hK0 hc_wo i0 i1 hm
    have e1 : s0 100 = s 100 := hF0 100 (by decide)
    have b2 : 1 ≤ (s0 100) ∧ (s0 100) ≤ 64 := hS0 100
    have b3 : 1 ≤ (s 100) ∧ (s 100) ≤ 64 := hS 100
    have e4 : s0 101 = s 101 := hF0 101 (by decide)
    have b5 : 1 ≤ (s0 101) ∧ (s0 101) ≤ 64 := hS0 101
    have b6 : 1 ≤ (s 101) ∧ (s 101) ≤ 64 := hS 101
    have e7 : s0 102 = s 102 := hF0 102 (by decide)
    have b8 : 1 ≤ (s0 102) ∧ (s0 102) ≤ 3 := hS0 102
    have b9 : 1 ≤ (s 102) ∧ (s 102) ≤ 3 := hS 102
    have e10 : s0 1206 = s 1206 := hF0 1206 (by decide)
    have b11 : 0 ≤ (s0 1206) ∧ (s0 1206) ≤ 64 := hS0 1206
    have b12 : 0 ≤ (s 1206) ∧ (s 1206) ≤ 64 := hS 1206
    have e13 : s0 801 = s 801 := hF0 801 (by decide)
    have b14 : -2147483648 ≤ (s0 801) ∧ (s0 801) ≤ 2147483647 := hS0 801
    have b15 : -2147483648 ≤ (s 801) ∧ (s 801) ≤ 2147483647 := hS 801
    have b16 : ln D0 (p0 1205) ≤ 12288 := (hW0).s12.2.2
    have el : ln D0 (p0 1205) = ln D (p 1205) := by rw [hP0 1205 (by decide)]; exact ext_ln hE0 (arr_lt hW.s12.1)
    refine tt_k 3 (S' := (45, [some (.inr (.inl 12)), some (.inr (.inl 1)), some (.inl a_), some (.inl y), o_4], [.inl (s0 101), .inl y], n0, D0, s0, p0, c0)) rfl ?_
    refine tb_ge (x := y) (y := (s0 101)) rfl rfl (by omega) (fun h17 => ?_) (fun h17 => ?_)
    · show tt Zi d 32 (149, [some (.inr (.inl 12)), some (.inr (.inl 1)), some (.inl a_), some (.inl y), o_4], [], n0, D0, s0, p0, c0) _
      exact hK y (o_4) n0 D0 s0 p0 c0 (by omega) hS0 hF0 hC0 hW0 hP0 hE0 hK0 hc_wo (show y ≤ s 101 by omega) (show 7 * (s0 401) - (s0 1602) ≤ U + 110 * 0 + 7150 * y by omega) trivial
    · show tt Zi d 32 (48, [some (.inr (.inl 12)), some (.inr (.inl 1)), some (.inl a_), some (.inl y), o_4], [], n0, D0, s0, p0, c0) _
      refine tt_k 5 (S' := (53, [some (.inr (.inl 12)), some (.inr (.inl 1)), some (.inl a_), some (.inl y), o_4], [.inl y, .inl 0, .inl a_, .inr (.inl 1), .inr (.inl 12)], n0, D0, s0, p0, c0)) rfl ?_
      refine tt_cl (by omega) rfl (g_index1 (Zi := Zi) (q := q) (n := n0) (D := D0) (s := s0) (p := p0) (c := c0) (by omega) hz (by omega) hK0.1 hS0 hC0 hW0 a_ 0 y (by omega) (by omega) (by omega) (show a_ < (s0 102) ∧ 0 < (s0 100) ∧ y < (s0 101) by omega)) ?_
      rintro _ _ ⟨r18, rfl, rfl, b19, k20, k21⟩
      show tt Zi d 32 (56, [some (.inr (.inl 12)), some (.inr (.inl 1)), some (.inl a_), some (.inl y), o_4], [.inl r18, .inr (.inl 12)], n0, D0, s0, p0, c0) _
      replace k20 : r18 = (a_ * (s0 101) + y) * (s0 100) + 0 := k20
      replace k21 : r18 + (s0 100) - 0 ≤ (s0 100) * (s0 101) * (s0 102) := k21
      have hmm : (s0 100) * (s0 101) * (s0 102) = s 100 * s 101 * s 102 := by rw [show (s0 100) = s 100 by omega, show (s0 101) = s 101 by omega, show (s0 102) = s 102 by omega]
      refine tt_k 2 (S' := (60, [some (.inr (.inl 12)), some (.inr (.inl 1)), some (.inl a_), some (.inl y), o_4], [.inr (.inl 12)], n0, D0, (us s0 1207 r18), p0, c0)) rfl ?_
      refine tt_cl (by omega) rfl (g_openRow12 (Zi := Zi) (q := q) (n := n0) (D := D0) (s := (us s0 1207 r18)) (p := p0) (c := c0) (by omega) hz (by omega) hK0.1 (bS_us hS0 (show 0 ≤ r18 ∧ r18 ≤ 12288 by omega)) hC0 (wp_us (by decide) hW0) ) ?_
      rintro _ _ ⟨p22, c23, rfl, rfl, hC23, hW24, g25, kf26⟩
      have FK27 : fk p c n0 p22 c23 [400, 900, 901, 1203, 1204] := fk_tr hK0 kf26 (by decide)
      show tt Zi d 32 (63, [some (.inr (.inl 12)), some (.inr (.inl 1)), some (.inl a_), some (.inl y), o_4], [], n0, D0, (us s0 1207 r18), p22, c23) _
      have e28 : ln D0 (p22 1205) = ln D0 (p0 1205) := (congrArg (ln D0) (g25 1205 (by decide)))
      refine tt_k 2 (S' := (66, [some (.inr (.inl 12)), some (.inr (.inl 1)), some (.inl a_), some (.inl y), some (.inl 0)], [], n0, D0, (us s0 1207 r18), p22, c23)) rfl ?_
      refine g_tellPlane12_1_L66 (Zi := Zi) (q := q) (n := n0) (D := D0) (s := (us s0 1207 r18)) (p := p22) (c := c23) hd hz (by omega) FK27.1 (bS_us hS0 (show 0 ≤ r18 ∧ r18 ≤ 12288 by omega)) hC23 hW24 U a_ y (by omega) (by omega) (show r18 + (s0 1206) ≤ (ln D0 (p22 1205) : Int) by omega) (show 0 ≤ (s0 801) ∧ (s0 801) ≤ 255 by omega) (show U + 457600 ≤ 1834000 by omega)  ?_ _ 0 n0 D0 (us s0 1207 r18) p22 c23 (by omega) (bS_us hS0 (show 0 ≤ r18 ∧ r18 ≤ 12288 by omega)) fr_rf hC23 hW24 frp_rf ext_rf (fk_rf FK27.1) (wo_us (by decide) hc_wo) (show 7 * (s0 401) - (s0 1602) ≤ U + 110 * 0 + 7150 * y by omega) (Nat.lt_succ_self _)
      intro x29 n30 D31 s32 p33 c34 b35 hS32 f36 hC34 hW37 g38 xe39 kf40 hc41 i42 hx43
      show tt Zi d 32 (139, [some (.inr (.inl 12)), some (.inr (.inl 1)), some (.inl a_), some (.inl y), some (.inl x29)], [], n30, D31, s32, p33, c34) _
      have FK44 : fk p c n30 p33 c34 [400, 900, 901, 1203, 1204] := fk_tr FK27 kf40 (by decide)
      replace i42 : 7 * (s32 401) - (s32 1602) ≤ U + 110 * x29 + 7150 * y := i42
      have b45 : 0 ≤ (s32 401) ∧ (s32 401) ≤ 262144 := hS32 401
      have b46 : 1 ≤ (s32 1602) ∧ (s32 1602) ≤ 8 := hS32 1602
      have e47 : s32 100 = (s0 100) := (f36 100 (by decide))
      have b48 : 1 ≤ (s32 100) ∧ (s32 100) ≤ 64 := hS32 100
      have e49 : s32 101 = (s0 101) := (f36 101 (by decide))
      have b50 : 1 ≤ (s32 101) ∧ (s32 101) ≤ 64 := hS32 101
      have e51 : s32 102 = (s0 102) := (f36 102 (by decide))
      have b52 : 1 ≤ (s32 102) ∧ (s32 102) ≤ 3 := hS32 102
      have e53 : s32 1206 = (s0 1206) := (f36 1206 (by decide))
      have b54 : 0 ≤ (s32 1206) ∧ (s32 1206) ≤ 64 := hS32 1206
      have e55 : s32 1207 = r18 := (f36 1207 (by decide))
      have b56 : 0 ≤ (s32 1207) ∧ (s32 1207) ≤ 12288 := hS32 1207
      have e57 : s32 801 = (s0 801) := (f36 801 (by decide))
      have b58 : -2147483648 ≤ (s32 801) ∧ (s32 801) ≤ 2147483647 := hS32 801
      have e59 : ln D31 (p33 1205) = ln D0 (p22 1205) := (congrArg (ln D31) (g38 1205 (by decide))).trans (ext_ln xe39 (arr_lt (hW24).s12.1))
      refine tt_k 1 (S' := (140, [some (.inr (.inl 12)), some (.inr (.inl 1)), some (.inl a_), some (.inl y), some (.inl x29)], [.inr (.inl 12)], n30, D31, s32, p33, c34)) rfl ?_
      refine tt_cl (by omega) rfl (g_closeRow12 (Zi := Zi) (q := q) (n := n30) (D := D31) (s := s32) (p := p33) (c := c34) (by omega) hz (by omega) FK44.1 hS32 hC34 hW37 ) ?_
      rintro _ _ ⟨rfl, rfl⟩
      show tt Zi d 32 (143, [some (.inr (.inl 12)), some (.inr (.inl 1)), some (.inl a_), some (.inl y), some (.inl x29)], [], n30, D31, s32, p33, c34) _
      refine tt_k 2 (S' := (40, [some (.inr (.inl 12)), some (.inr (.inl 1)), some (.inl a_), some (.inl (y + 1)), some (.inl x29)], [], n30, D31, s32, p33, c34)) rfl ?_
      exact ih (y + 1) (some (.inl x29)) n30 D31 s32 p33 c34 (by omega) hS32 (fr_tr (fr_us (by decide) hF0) f36 (by decide)) hC34 hW37 (frp_tr (frp_tr hP0 g25 (by decide)) g38 (by decide)) (ext_tr hE0 xe39) FK44 hc41 (show (y + 1) ≤ s 101 by omega) (show 7 * (s32 401) - (s32 1602) ≤ U + 110 * 0 + 7150 * (y + 1) by omega) (show (s 101 - (y + 1)).toNat < m by omega)
set_option maxRecDepth 100000 in
set_option maxHeartbeats 4000000 in
theorem g_tellPlane12_1 {g : Nat → Int} {Zi : Nat → Option (Nat × (Nat → Int))} {d n q : Nat} {D : Nat → Nat × Nat} {s : Nat → Int} {p : Nat → Nat} {c : Nat → Nat → Int} (hd : 5 ≤ d) (hz : zk Zi) (hq : q + 10 ≤ 400000) (hD : wd n p) (hS : bS s) (hC : bC D c) (hW : wp q g n D p s) (a_ : Int) (b_a_ : 0 ≤ a_ ∧ a_ ≤ 2) (hp0 : wo s) (hp1 : 0 ≤ s 801 ∧ s 801 ≤ 255) (hp2 : 7 * s 401 - s 1602 + 500000 ≤ 1834990) (hp3 : a_ < s 102 ∧ 1 ≤ s 100) : tt Zi d 32 (0, [some (.inr (.inl 12)), some (.inr (.inl 1)), some (.inl a_), none, none], [], n, D, s, p, c) (fun R H => ∃ (n' : Nat) (D' : Nat → Nat × Nat) (s' : Nat → Int) (p' : Nat → Nat) (c' : Nat → Nat → Int), R = .inl none ∧ H = (n', D', s', p', c') ∧ bS s' ∧ bC D' c' ∧ wp q g n' D' p' s' ∧ fr s s' [401, 902, 1206, 1207, 1208, 1209, 1210, 1211, 1212, 1213, 1214, 1215, 1216, 1601, 1602] ∧ frp p p' [400, 900, 901, 1203, 1204, 1205] ∧ ext n D n' D' ∧ fk p c n' p' c' [400, 900, 901, 1203, 1204] ∧ (wo s') ∧ (7 * s' 401 - s' 1602 ≤ 7 * s 401 - s 1602 + 457600)) := by
  have b1 : 1 ≤ (s 100) ∧ (s 100) ≤ 64 := hS 100
  have b2 : 1 ≤ (s 101) ∧ (s 101) ≤ 64 := hS 101
  have b3 : 1 ≤ (s 102) ∧ (s 102) ≤ 3 := hS 102
  refine tt_k 13 (S' := (27, [some (.inr (.inl 12)), some (.inr (.inl 1)), some (.inl a_), none, none], [.inl (s 807), .inr (.inl 9)], n, D, (us s 1206 (s 100)), (up p 1205 (p 104)), c)) rfl ?_
  have b4 : 0 ≤ (s 807) ∧ (s 807) ≤ 65536 := hS 807
  have FK5 : fk p c n (up p 1205 (p 104)) c [400, 900, 901, 1203, 1204] := (fk_up (by decide) (fk_rf hD))
  refine tt_cl (by omega) rfl (g_begin (Zi := Zi) (q := q) (n := n) (D := D) (s := (us s 1206 (s 100))) (p := (up p 1205 (p 104))) (c := c) (by omega) hz (by omega) FK5.1 (bS_us hS (show 0 ≤ (s 100) ∧ (s 100) ≤ 64 by omega)) hC (wp_us (by decide) (wp_sa12_1 hW)) (s 807) (by omega)) ?_
  rintro _ _ ⟨s6, c7, rfl, rfl, hS6, hC7, hW8, f9, kf10⟩
  have hc11 : wo s6 := wo_fr f9 (by decide) (wo_us (by decide) hp0)
  have FK12 : fk p c n (up p 1205 (p 104)) c7 [400, 900, 901, 1203, 1204] := fk_tr FK5 kf10 (by decide)
  show tt Zi d 32 (30, [some (.inr (.inl 12)), some (.inr (.inl 1)), some (.inl a_), none, none], [], n, D, s6, (up p 1205 (p 104)), c7) _
  have e13 : s6 100 = (s 100) := (f9 100 (by decide))
  have b14 : 1 ≤ (s6 100) ∧ (s6 100) ≤ 64 := hS6 100
  have e15 : s6 101 = (s 101) := (f9 101 (by decide))
  have b16 : 1 ≤ (s6 101) ∧ (s6 101) ≤ 64 := hS6 101
  have e17 : s6 102 = (s 102) := (f9 102 (by decide))
  have b18 : 1 ≤ (s6 102) ∧ (s6 102) ≤ 3 := hS6 102
  have e19 : s6 1206 = (s 100) := (f9 1206 (by decide))
  have b20 : 0 ≤ (s6 1206) ∧ (s6 1206) ≤ 64 := hS6 1206
  have e21 : s6 1207 = (s 1207) := (f9 1207 (by decide))
  have b22 : 0 ≤ (s6 1207) ∧ (s6 1207) ≤ 12288 := hS6 1207
  have b23 : 0 ≤ (s 1207) ∧ (s 1207) ≤ 12288 := hS 1207
  have e24 : s6 801 = (s 801) := (f9 801 (by decide))
  have b25 : -2147483648 ≤ (s6 801) ∧ (s6 801) ≤ 2147483647 := hS6 801
  have b26 : -2147483648 ≤ (s 801) ∧ (s 801) ≤ 2147483647 := hS 801
  have e27 : s6 401 = (s 401) := (f9 401 (by decide))
  have b28 : 0 ≤ (s6 401) ∧ (s6 401) ≤ 262144 := hS6 401
  have b29 : 0 ≤ (s 401) ∧ (s 401) ≤ 262144 := hS 401
  have e30 : s6 1602 = (s 1602) := (f9 1602 (by decide))
  have b31 : 1 ≤ (s6 1602) ∧ (s6 1602) ≤ 8 := hS6 1602
  have b32 : 1 ≤ (s 1602) ∧ (s 1602) ≤ 8 := hS 1602
  refine tt_k 3 (S' := (35, [some (.inr (.inl 12)), some (.inr (.inl 1)), some (.inl a_), none, none], [.inl 0, .inr (.inl (p 1204))], n, D, s6, (up p 1205 (p 104)), c7)) rfl ?_
  refine tt_cl (by omega) rfl (g_fill (A := (p 1204)) (m := 66) (s := s6) (p := (up p 1205 (p 104))) ((sw_arr (hW8).a12 rfl rfl).2) (by omega) (by rw [(show bC_lo D (p 1204) = 0 ∧ bC_hi D (p 1204) = 65535 from ((sw_12 (hW8).a12).2)).1, (show bC_lo D (p 1204) = 0 ∧ bC_hi D (p 1204) = 65535 from ((sw_12 (hW8).a12).2)).2]; decide) hC7) ?_
  rintro _ _ ⟨c33, rfl, rfl, hC33, fc33, ec33, zc33⟩
  show tt Zi d 32 (38, [some (.inr (.inl 12)), some (.inr (.inl 1)), some (.inl a_), none, none], [], n, D, s6, (up p 1205 (p 104)), c33) _
  have FK34 : fk p c n (up p 1205 (p 104)) c33 [400, 900, 901, 1203, 1204] := fk_st (k := 1204) FK12 ec33 (by decide) rfl
  refine tt_k 2 (S' := (40, [some (.inr (.inl 12)), some (.inr (.inl 1)), some (.inl a_), some (.inl 0), none], [], n, D, s6, (up p 1205 (p 104)), c33)) rfl ?_
  refine g_tellPlane12_1_L40 (Zi := Zi) (q := q) (n := n) (D := D) (s := s6) (p := (up p 1205 (p 104))) (c := c33) hd hz (by omega) FK34.1 hS6 hC33 hW8 (7 * s 401 - s 1602) a_ (by omega) (show _ from (hW8).w1) (show (s6 1206) = (s6 100) by omega) (show a_ < (s6 102) ∧ 1 ≤ (s6 100) by omega) (show 0 ≤ (s6 801) ∧ (s6 801) ≤ 255 by omega) (show (7 * s 401 - s 1602) + 457600 ≤ 1834000 by omega)  ?_ _ 0 (none) n D s6 (up p 1205 (p 104)) c33 (by omega) hS6 fr_rf hC33 hW8 frp_rf ext_rf (fk_rf FK34.1) hc11 (show 0 ≤ (s6 101) by omega) (show 7 * (s6 401) - (s6 1602) ≤ (7 * s 401 - s 1602) + 110 * 0 + 7150 * 0 by omega) (Nat.lt_succ_self _)
  intro x35 x36 n37 D38 s39 p40 c41 b42 hS39 f43 hC41 hW44 g45 xe46 kf47 hc48 i49 i50 hx51
  show tt Zi d 32 (149, [some (.inr (.inl 12)), some (.inr (.inl 1)), some (.inl a_), some (.inl x35), x36], [], n37, D38, s39, p40, c41) _
  have FK52 : fk p c n37 p40 c41 [400, 900, 901, 1203, 1204] := fk_tr FK34 kf47 (by decide)
  replace i49 : x35 ≤ (s6 101) := i49
  replace i50 : 7 * (s39 401) - (s39 1602) ≤ (7 * s 401 - s 1602) + 110 * 0 + 7150 * x35 := i50
  have b53 : 0 ≤ (s39 401) ∧ (s39 401) ≤ 262144 := hS39 401
  have b54 : 1 ≤ (s39 1602) ∧ (s39 1602) ≤ 8 := hS39 1602
  have e55 : s39 100 = (s6 100) := (f43 100 (by decide))
  have b56 : 1 ≤ (s39 100) ∧ (s39 100) ≤ 64 := hS39 100
  have e57 : s39 101 = (s6 101) := (f43 101 (by decide))
  have b58 : 1 ≤ (s39 101) ∧ (s39 101) ≤ 64 := hS39 101
  have e59 : s39 102 = (s6 102) := (f43 102 (by decide))
  have b60 : 1 ≤ (s39 102) ∧ (s39 102) ≤ 3 := hS39 102
  have e61 : s39 1206 = (s6 1206) := (f43 1206 (by decide))
  have b62 : 0 ≤ (s39 1206) ∧ (s39 1206) ≤ 64 := hS39 1206
  have e63 : s39 801 = (s6 801) := (f43 801 (by decide))
  have b64 : -2147483648 ≤ (s39 801) ∧ (s39 801) ≤ 2147483647 := hS39 801
  have e65 : ln D38 (p40 1205) = ln D (p 104) := (congrArg (ln D38) (g45 1205 (by decide))).trans (ext_ln xe46 (arr_lt (hW8).s12.1))
  refine tt_k 2 (S' := (153, [some (.inr (.inl 12)), some (.inr (.inl 1)), some (.inl a_), some (.inl x35), x36], [.inr (.inl 9)], n37, D38, s39, p40, c41)) rfl ?_
  refine tt_cl (by omega) rfl (g_keep (Zi := Zi) (q := q) (n := n37) (D := D38) (s := s39) (p := p40) (c := c41) (by omega) hz (by omega) FK52.1 hS39 hC41 hW44 ) ?_
  rintro _ _ ⟨p66, rfl, rfl, hW67, g68, kf69⟩
  have FK70 : fk p c n37 p66 c41 [400, 900, 901, 1203, 1204] := fk_tr FK52 kf69 (by decide)
  show tt Zi d 32 (156, [some (.inr (.inl 12)), some (.inr (.inl 1)), some (.inl a_), some (.inl x35), x36], [], n37, D38, s39, p66, c41) _
  have e71 : ln D38 (p66 1205) = ln D38 (p40 1205) := (congrArg (ln D38) (g68 1205 (by decide)))
  exact tt_rtv rfl rfl ⟨n37, D38, s39, p66, c41, rfl, rfl, hS39, hC41, hW67, (fr_tr (fr_tr (fr_us (by decide) fr_rf) f9 (by decide)) f43 (by decide)), (frp_tr (frp_tr (frp_up (by decide) frp_rf) g45 (by decide)) g68 (by decide)), (ext_tr ext_rf xe46), FK70, hc48, by show 7 * (s39 401) - (s39 1602) ≤ 7 * s 401 - s 1602 + 457600; omega⟩
set_option maxRecDepth 100000 in
set_option maxHeartbeats 4000000 in
theorem g_tellPlane21_25_L66 {g : Nat → Int} {Zi : Nat → Option (Nat × (Nat → Int))} {d n q : Nat} {D : Nat → Nat × Nat} {s : Nat → Int} {p : Nat → Nat} {c : Nat → Nat → Int}  {Q : mi_Rs → mi_H → Prop} (hd : 8 ≤ d) (hz : zk Zi) (hq : q + 16 ≤ 400001) (hD : wd n p) (hS : bS s) (hC : bC D c) (hW : wp q g n D p s) (a_ : Int) (y : Int) (b_a_ : 0 ≤ a_ ∧ a_ ≤ 2) (b_y : 0 ≤ y ∧ y ≤ 63) (hq0 : s 2107 + s 2106 ≤ (ln D (p 2105) : Int)) (hX12 : ∀ H, cX (q + 1) g s p c [900, 901, 2103, 2104, 2504] LXR H → Q (.inr 12) H)
  (hK : ∀ (x : Int) (s0 : Nat → Int) (c0 : Nat → Nat → Int) (b_x : 0 ≤ x ∧ x ≤ 65) (hS0 : bS s0) (hF0 : fr s s0 [902, 2001, 2002, 2003, 2004, 2108, 2109, 2110, 2111, 2112, 2113, 2114, 2115, 2116]) (hC0 : bC D c0) (hW0 : wp q g n D p s0) (hK0 : fk p c n p c0 [900, 901, 2103, 2104, 2504]) (i0 : s 2001 ≤ 32768 → s0 2001 ≤ 32768), (True) → tt Zi d 32 (139, [some (.inr (.inl 21)), some (.inr (.inl 25)), some (.inl a_), some (.inl y), some (.inl x)], [], n, D, s0, p, c0) Q) :
  ∀ (m : Nat) (x : Int) (s0 : Nat → Int) (c0 : Nat → Nat → Int) (b_x : 0 ≤ x ∧ x ≤ 65) (hS0 : bS s0) (hF0 : fr s s0 [902, 2001, 2002, 2003, 2004, 2108, 2109, 2110, 2111, 2112, 2113, 2114, 2115, 2116]) (hC0 : bC D c0) (hW0 : wp q g n D p s0) (hK0 : fk p c n p c0 [900, 901, 2103, 2104, 2504]) (i0 : s 2001 ≤ 32768 → s0 2001 ≤ 32768), (65 - x).toNat < m → tt Zi d 32 (66, [some (.inr (.inl 21)), some (.inr (.inl 25)), some (.inl a_), some (.inl y), some (.inl x)], [], n, D, s0, p, c0) Q := by
  intro m
  induction m with
  | zero => intro x s0 c0 b_x hS0 hF0 hC0 hW0 hK0 i0 hm; exact absurd hm (by omega)
  | succ m ih =>
    intro x s0 c0 b_x hS0 hF0 hC0 hW0 hK0 i0 hm
    have e1 : s0 2500 = s 2500 := hF0 2500 (by decide)
    have b2 : 0 ≤ (s0 2500) ∧ (s0 2500) ≤ 64 := hS0 2500
    have b3 : 0 ≤ (s 2500) ∧ (s 2500) ≤ 64 := hS 2500
    have e4 : s0 2501 = s 2501 := hF0 2501 (by decide)
    have b5 : 0 ≤ (s0 2501) ∧ (s0 2501) ≤ 64 := hS0 2501
    have b6 : 0 ≤ (s 2501) ∧ (s 2501) ≤ 64 := hS 2501
    have e7 : s0 2502 = s 2502 := hF0 2502 (by decide)
    have b8 : 0 ≤ (s0 2502) ∧ (s0 2502) ≤ 3 := hS0 2502
    have b9 : 0 ≤ (s 2502) ∧ (s 2502) ≤ 3 := hS 2502
    have e10 : s0 2106 = s 2106 := hF0 2106 (by decide)
    have b11 : 0 ≤ (s0 2106) ∧ (s0 2106) ≤ 64 := hS0 2106
    have b12 : 0 ≤ (s 2106) ∧ (s 2106) ≤ 64 := hS 2106
    have e13 : s0 2107 = s 2107 := hF0 2107 (by decide)
    have b14 : 0 ≤ (s0 2107) ∧ (s0 2107) ≤ 12288 := hS0 2107
    have b15 : 0 ≤ (s 2107) ∧ (s 2107) ≤ 12288 := hS 2107
    have b16 : ln D (p 2105) ≤ 12288 := (hW0).s21.2.2
    refine tt_k 3 (S' := (72, [some (.inr (.inl 21)), some (.inr (.inl 25)), some (.inl a_), some (.inl y), some (.inl x)], [.inl (s0 2106), .inl x], n, D, s0, p, c0)) rfl ?_
    refine tb_ge (x := x) (y := (s0 2106)) rfl rfl (by omega) (fun h17 => ?_) (fun h17 => ?_)
    · show tt Zi d 32 (139, [some (.inr (.inl 21)), some (.inr (.inl 25)), some (.inl a_), some (.inl y), some (.inl x)], [], n, D, s0, p, c0) _
      exact hK x s0 c0 (by omega) hS0 hF0 hC0 hW0 hK0 (show s 2001 ≤ 32768 → (s0 2001) ≤ 32768 by omega) trivial
    · show tt Zi d 32 (75, [some (.inr (.inl 21)), some (.inr (.inl 25)), some (.inl a_), some (.inl y), some (.inl x)], [], n, D, s0, p, c0) _
      refine tt_k 2 (S' := (78, [some (.inr (.inl 21)), some (.inr (.inl 25)), some (.inl a_), some (.inl y), some (.inl x)], [.inl x, .inr (.inl 21)], n, D, s0, p, c0)) rfl ?_
      refine tt_cl (by omega) rfl (g_look21 (Zi := Zi) (q := q) (n := n) (D := D) (s := s0) (p := p) (c := c0) (by omega) hz (by omega) hK0.1 hS0 hC0 hW0 x (by omega)) ?_
      rintro _ _ ⟨s18, rfl, rfl, hS18, hW19, f20⟩
      show tt Zi d 32 (81, [some (.inr (.inl 21)), some (.inr (.inl 25)), some (.inl a_), some (.inl y), some (.inl x)], [], n, D, s18, p, c0) _
      have e21 : s18 2500 = (s0 2500) := (f20 2500 (by decide))
      have b22 : 0 ≤ (s18 2500) ∧ (s18 2500) ≤ 64 := hS18 2500
      have e23 : s18 2501 = (s0 2501) := (f20 2501 (by decide))
      have b24 : 0 ≤ (s18 2501) ∧ (s18 2501) ≤ 64 := hS18 2501
      have e25 : s18 2502 = (s0 2502) := (f20 2502 (by decide))
      have b26 : 0 ≤ (s18 2502) ∧ (s18 2502) ≤ 3 := hS18 2502
      have e27 : s18 2106 = (s0 2106) := (f20 2106 (by decide))
      have b28 : 0 ≤ (s18 2106) ∧ (s18 2106) ≤ 64 := hS18 2106
      have e29 : s18 2107 = (s0 2107) := (f20 2107 (by decide))
      have b30 : 0 ≤ (s18 2107) ∧ (s18 2107) ≤ 12288 := hS18 2107
      have e31 : s18 2001 = (s0 2001) := (f20 2001 (by decide))
      have b32 : 0 ≤ (s18 2001) ∧ (s18 2001) ≤ 100000 := hS18 2001
      have b33 : 0 ≤ (s0 2001) ∧ (s0 2001) ≤ 100000 := hS0 2001
      refine tt_k 2 (S' := (85, [some (.inr (.inl 21)), some (.inr (.inl 25)), some (.inl a_), some (.inl y), some (.inl x)], [.inl (s18 2111)], n, D, s18, p, c0)) rfl ?_
      have b34 : 0 ≤ (s18 2111) ∧ (s18 2111) ≤ 366 := hS18 2111
      refine tz_eq (x := (s18 2111)) rfl rfl (by omega) (fun h35 => ?_) (fun h35 => ?_)
      · show tt Zi d 32 (101, [some (.inr (.inl 21)), some (.inr (.inl 25)), some (.inl a_), some (.inl y), some (.inl x)], [], n, D, s18, p, c0) _
        refine tt_k 3 (S' := (106, [some (.inr (.inl 21)), some (.inr (.inl 25)), some (.inl a_), some (.inl y), some (.inl x)], [.inl x, .inr (.inl 21), .inl x], n, D, s18, p, c0)) rfl ?_
        refine tt_cl (by omega) rfl (g_tellRun21 (Zi := Zi) (q := q) (n := n) (D := D) (s := s18) (p := p) (c := c0) (by omega) hz (by omega) hK0.1 hS18 hC0 hW19 x (by omega) (show x < (s18 2106) by omega)) ?_
        rintro _ H1 (⟨s36, c37, r38, rfl, rfl, hS36, hC37, hW39, f40, kf41, b42, k43, k44⟩ | ⟨rfl, hY45⟩)
        rotate_left
        · exact tt_ax rfl (hX12 _ (cX_mono (cX_trx hK0 (fr_wk (show fr s s18 [902, 2001, 2002, 2003, 2004, 2108, 2109, 2110, 2111, 2112, 2113, 2114, 2115, 2116] from (fr_tr hF0 f20 (by decide))) (by decide)) hY45 (by decide)) (by omega)))
        have FK46 : fk p c n p c37 [900, 901, 2103, 2104, 2504] := fk_tr hK0 kf41 (by decide)
        show tt Zi d 32 (109, [some (.inr (.inl 21)), some (.inr (.inl 25)), some (.inl a_), some (.inl y), some (.inl x)], [.inl r38, .inl x], n, D, s36, p, c37) _
        replace k43 : x + r38 ≤ (s18 2106) := k43
        replace k44 : (s18 2001) ≤ 32768 → (s36 2001) ≤ 32768 := k44
        have b47 : 0 ≤ (s36 2001) ∧ (s36 2001) ≤ 100000 := hS36 2001
        have e48 : s36 2500 = (s18 2500) := (f40 2500 (by decide))
        have b49 : 0 ≤ (s36 2500) ∧ (s36 2500) ≤ 64 := hS36 2500
        have e50 : s36 2501 = (s18 2501) := (f40 2501 (by decide))
        have b51 : 0 ≤ (s36 2501) ∧ (s36 2501) ≤ 64 := hS36 2501
        have e52 : s36 2502 = (s18 2502) := (f40 2502 (by decide))
        have b53 : 0 ≤ (s36 2502) ∧ (s36 2502) ≤ 3 := hS36 2502
        have e54 : s36 2106 = (s18 2106) := (f40 2106 (by decide))
        have b55 : 0 ≤ (s36 2106) ∧ (s36 2106) ≤ 64 := hS36 2106
        have e56 : s36 2107 = (s18 2107) := (f40 2107 (by decide))
        have b57 : 0 ≤ (s36 2107) ∧ (s36 2107) ≤ 12288 := hS36 2107
        refine tt_k 5 (S' := (118, [some (.inr (.inl 21)), some (.inr (.inl 25)), some (.inl a_), some (.inl y), some (.inl (x + r38))], [.inl (s36 2106), .inl (x + r38)], n, D, s36, p, c37)) rfl ?_
        refine tb_ge (x := (x + r38)) (y := (s36 2106)) rfl rfl (by omega) (fun h58 => ?_) (fun h58 => ?_)
        · show tt Zi d 32 (133, [some (.inr (.inl 21)), some (.inr (.inl 25)), some (.inl a_), some (.inl y), some (.inl (x + r38))], [], n, D, s36, p, c37) _
          refine tt_k 2 (S' := (66, [some (.inr (.inl 21)), some (.inr (.inl 25)), some (.inl a_), some (.inl y), some (.inl ((x + r38) + 1))], [], n, D, s36, p, c37)) rfl ?_
          exact ih ((x + r38) + 1) s36 c37 (by omega) hS36 (fr_tr (fr_tr hF0 f20 (by decide)) f40 (by decide)) hC37 hW39 FK46 (show s 2001 ≤ 32768 → (s36 2001) ≤ 32768 by omega) (show (65 - ((x + r38) + 1)).toNat < m by omega)
        · show tt Zi d 32 (121, [some (.inr (.inl 21)), some (.inr (.inl 25)), some (.inl a_), some (.inl y), some (.inl (x + r38))], [], n, D, s36, p, c37) _
          refine tt_k 2 (S' := (124, [some (.inr (.inl 21)), some (.inr (.inl 25)), some (.inl a_), some (.inl y), some (.inl (x + r38))], [.inl (x + r38), .inr (.inl 21)], n, D, s36, p, c37)) rfl ?_
          refine tt_cl (by omega) rfl (g_aimStop21 (Zi := Zi) (q := q) (n := n) (D := D) (s := s36) (p := p) (c := c37) (by omega) hz (by omega) FK46.1 hS36 hC37 hW39 (x + r38) (by omega)) ?_
          rintro _ _ ⟨s59, rfl, rfl, hS59, hW60, f61⟩
          show tt Zi d 32 (127, [some (.inr (.inl 21)), some (.inr (.inl 25)), some (.inl a_), some (.inl y), some (.inl (x + r38))], [], n, D, s59, p, c37) _
          have e62 : s59 2500 = (s36 2500) := (f61 2500 (by decide))
          have b63 : 0 ≤ (s59 2500) ∧ (s59 2500) ≤ 64 := hS59 2500
          have e64 : s59 2501 = (s36 2501) := (f61 2501 (by decide))
          have b65 : 0 ≤ (s59 2501) ∧ (s59 2501) ≤ 64 := hS59 2501
          have e66 : s59 2502 = (s36 2502) := (f61 2502 (by decide))
          have b67 : 0 ≤ (s59 2502) ∧ (s59 2502) ≤ 3 := hS59 2502
          have e68 : s59 2106 = (s36 2106) := (f61 2106 (by decide))
          have b69 : 0 ≤ (s59 2106) ∧ (s59 2106) ≤ 64 := hS59 2106
          have e70 : s59 2107 = (s36 2107) := (f61 2107 (by decide))
          have b71 : 0 ≤ (s59 2107) ∧ (s59 2107) ≤ 12288 := hS59 2107
          have e72 : s59 2001 = (s36 2001) := (f61 2001 (by decide))
          have b73 : 0 ≤ (s59 2001) ∧ (s59 2001) ≤ 100000 := hS59 2001
          refine tt_k 2 (S' := (130, [some (.inr (.inl 21)), some (.inr (.inl 25)), some (.inl a_), some (.inl y), some (.inl (x + r38))], [.inl (x + r38), .inr (.inl 21)], n, D, s59, p, c37)) rfl ?_
          refine tt_cl (by omega) rfl (g_tellStop21 (Zi := Zi) (q := q) (n := n) (D := D) (s := s59) (p := p) (c := c37) (by omega) hz (by omega) FK46.1 hS59 hC37 hW60 (x + r38) (by omega)) ?_
          rintro _ H1 (⟨s74, c75, rfl, rfl, hS74, hC75, hW76, f77, kf78, k79⟩ | ⟨rfl, hY80⟩)
          rotate_left
          · exact tt_ax rfl (hX12 _ (cX_mono (cX_trx FK46 (fr_wk (show fr s s59 [902, 2001, 2002, 2003, 2004, 2108, 2109, 2110, 2111, 2112, 2113, 2114, 2115, 2116] from (fr_tr (fr_tr (fr_tr hF0 f20 (by decide)) f40 (by decide)) f61 (by decide))) (by decide)) hY80 (by decide)) (by omega)))
          have FK81 : fk p c n p c75 [900, 901, 2103, 2104, 2504] := fk_tr FK46 kf78 (by decide)
          show tt Zi d 32 (133, [some (.inr (.inl 21)), some (.inr (.inl 25)), some (.inl a_), some (.inl y), some (.inl (x + r38))], [], n, D, s74, p, c75) _
          replace k79 : (s59 2001) ≤ 32768 → (s74 2001) ≤ 32768 := k79
          have b82 : 0 ≤ (s74 2001) ∧ (s74 2001) ≤ 100000 := hS74 2001
          have e83 : s74 2500 = (s59 2500) := (f77 2500 (by decide))
          have b84 : 0 ≤ (s74 2500) ∧ (s74 2500) ≤ 64 := hS74 2500
          have e85 : s74 2501 = (s59 2501) := (f77 2501 (by decide))
          have b86 : 0 ≤ (s74 2501) ∧ (s74 2501) ≤ 64 := hS74 2501
          have e87 : s74 2502 = (s59 2502) := (f77 2502 (by decide))
          have b88 : 0 ≤ (s74 2502) ∧ (s74 2502) ≤ 3 := hS74 2502
          have e89 : s74 2106 = (s59 2106) := (f77 2106 (by decide))
          have b90 : 0 ≤ (s74 2106) ∧ (s74 2106) ≤ 64 := hS74 2106
          have e91 : s74 2107 = (s59 2107) := (f77 2107 (by decide))
          have b92 : 0 ≤ (s74 2107) ∧ (s74 2107) ≤ 12288 := hS74 2107
          refine tt_k 2 (S' := (66, [some (.inr (.inl 21)), some (.inr (.inl 25)), some (.inl a_), some (.inl y), some (.inl ((x + r38) + 1))], [], n, D, s74, p, c75)) rfl ?_
          exact ih ((x + r38) + 1) s74 c75 (by omega) hS74 (fr_tr (fr_tr (fr_tr (fr_tr hF0 f20 (by decide)) f40 (by decide)) f61 (by decide)) f77 (by decide)) hC75 hW76 FK81 (show s 2001 ≤ 32768 → (s74 2001) ≤ 32768 by omega) (show (65 - ((x + r38) + 1)).toNat < m by omega)
      · show tt Zi d 32 (88, [some (.inr (.inl 21)), some (.inr (.inl 25)), some (.inl a_), some (.inl y), some (.inl x)], [], n, D, s18, p, c0) _
        refine tt_k 1 (S' := (89, [some (.inr (.inl 21)), some (.inr (.inl 25)), some (.inl a_), some (.inl y), some (.inl x)], [.inr (.inl 21)], n, D, s18, p, c0)) rfl ?_
        refine tt_cl (by omega) rfl (g_aim21 (Zi := Zi) (q := q) (n := n) (D := D) (s := s18) (p := p) (c := c0) (by omega) hz (by omega) hK0.1 hS18 hC0 hW19 ) ?_
        rintro _ _ ⟨s93, rfl, rfl, hS93, hW94, f95⟩
        show tt Zi d 32 (92, [some (.inr (.inl 21)), some (.inr (.inl 25)), some (.inl a_), some (.inl y), some (.inl x)], [], n, D, s93, p, c0) _
        have e96 : s93 2500 = (s18 2500) := (f95 2500 (by decide))
        have b97 : 0 ≤ (s93 2500) ∧ (s93 2500) ≤ 64 := hS93 2500
        have e98 : s93 2501 = (s18 2501) := (f95 2501 (by decide))
        have b99 : 0 ≤ (s93 2501) ∧ (s93 2501) ≤ 64 := hS93 2501
        have e100 : s93 2502 = (s18 2502) := (f95 2502 (by decide))
        have b101 : 0 ≤ (s93 2502) ∧ (s93 2502) ≤ 3 := hS93 2502
        have e102 : s93 2106 = (s18 2106) := (f95 2106 (by decide))
        have b103 : 0 ≤ (s93 2106) ∧ (s93 2106) ≤ 64 := hS93 2106
        have e104 : s93 2107 = (s18 2107) := (f95 2107 (by decide))
        have b105 : 0 ≤ (s93 2107) ∧ (s93 2107) ≤ 12288 := hS93 2107
        have e106 : s93 2001 = (s18 2001) := (f95 2001 (by decide))
        have b107 : 0 ≤ (s93 2001) ∧ (s93 2001) ≤ 100000 := hS93 2001
        refine tt_k 2 (S' := (95, [some (.inr (.inl 21)), some (.inr (.inl 25)), some (.inl a_), some (.inl y), some (.inl x)], [.inl x, .inr (.inl 21)], n, D, s93, p, c0)) rfl ?_
        refine tt_cl (by omega) rfl (g_tellSample21 (Zi := Zi) (q := q) (n := n) (D := D) (s := s93) (p := p) (c := c0) (by omega) hz (by omega) hK0.1 hS93 hC0 hW94 x (by omega)) ?_
        rintro _ H1 (⟨s108, c109, rfl, rfl, hS108, hC109, hW110, f111, kf112, k113⟩ | ⟨rfl, hY114⟩)
        rotate_left
        · exact tt_ax rfl (hX12 _ (cX_mono (cX_trx hK0 (fr_wk (show fr s s93 [902, 2001, 2002, 2003, 2004, 2108, 2109, 2110, 2111, 2112, 2113, 2114, 2115, 2116] from (fr_tr (fr_tr hF0 f20 (by decide)) f95 (by decide))) (by decide)) hY114 (by decide)) (by omega)))
        have FK115 : fk p c n p c109 [900, 901, 2103, 2104, 2504] := fk_tr hK0 kf112 (by decide)
        show tt Zi d 32 (98, [some (.inr (.inl 21)), some (.inr (.inl 25)), some (.inl a_), some (.inl y), some (.inl x)], [], n, D, s108, p, c109) _
        replace k113 : (s93 2001) ≤ 32768 → (s108 2001) ≤ 32768 := k113
        have b116 : 0 ≤ (s108 2001) ∧ (s108 2001) ≤ 100000 := hS108 2001
        have e117 : s108 2500 = (s93 2500) := (f111 2500 (by decide))
        have b118 : 0 ≤ (s108 2500) ∧ (s108 2500) ≤ 64 := hS108 2500
        have e119 : s108 2501 = (s93 2501) := (f111 2501 (by decide))
        have b120 : 0 ≤ (s108 2501) ∧ (s108 2501) ≤ 64 := hS108 2501
        have e121 : s108 2502 = (s93 2502) := (f111 2502 (by decide))
        have b122 : 0 ≤ (s108 2502) ∧ (s108 2502) ≤ 3 := hS108 2502
        have e123 : s108 2106 = (s93 2106) := (f111 2106 (by decide))
        have b124 : 0 ≤ (s108 2106) ∧ (s108 2106) ≤ 64 := hS108 2106
        have e125 : s108 2107 = (s93 2107) := (f111 2107 (by decide))
        have b126 : 0 ≤ (s108 2107) ∧ (s108 2107) ≤ 12288 := hS108 2107
        refine tt_k 3 (S' := (66, [some (.inr (.inl 21)), some (.inr (.inl 25)), some (.inl a_), some (.inl y), some (.inl (x + 1))], [], n, D, s108, p, c109)) rfl ?_
        exact ih (x + 1) s108 c109 (by omega) hS108 (fr_tr (fr_tr (fr_tr hF0 f20 (by decide)) f95 (by decide)) f111 (by decide)) hC109 hW110 FK115 (show s 2001 ≤ 32768 → (s108 2001) ≤ 32768 by omega) (show (65 - (x + 1)).toNat < m by omega)

set_option maxRecDepth 100000 in
set_option maxHeartbeats 4000000 in
theorem g_tellPlane21_25_L40 {g : Nat → Int} {Zi : Nat → Option (Nat × (Nat → Int))} {d n q : Nat} {D : Nat → Nat × Nat} {s : Nat → Int} {p : Nat → Nat} {c : Nat → Nat → Int}  {Q : mi_Rs → mi_H → Prop} (hd : 8 ≤ d) (hz : zk Zi) (hq : q + 16 ≤ 400001) (hD : wd n p) (hS : bS s) (hC : bC D c) (hW : wp q g n D p s) (a_ : Int) (b_a_ : 0 ≤ a_ ∧ a_ ≤ 2) (hq0 : s 2500 * s 2501 * s 2502 ≤ (ln D (p 2105) : Int)) (hq1 : s 2106 = s 2500) (hq2 : a_ < s 2502 ∧ 1 ≤ s 2500) (hq3 : p 2105 = p 2504) (hX12 : ∀ H, cX (q + 1) g s p c [900, 901, 2103, 2104, 2504] LXR H → Q (.inr 12) H)
  (hK : ∀ (y : Int) (o_4 : Option mi_V) (s0 : Nat → Int) (p0 : Nat → Nat) (c0 : Nat → Nat → Int) (b_y : 0 ≤ y ∧ y ≤ 64) (hS0 : bS s0) (hF0 : fr s s0 [902, 2001, 2002, 2003, 2004, 2107, 2108, 2109, 2110, 2111, 2112, 2113, 2114, 2115, 2116]) (hC0 : bC D c0) (hW0 : wp q g n D p0 s0) (hP0 : frp p p0 [2103, 2104]) (hK0 : fk p c n p0 c0 [900, 901, 2103, 2104, 2504]) (i0 : y ≤ s 2501) (i1 : s 2001 ≤ 32768 → s0 2001 ≤ 32768), (True) → tt Zi d 32 (149, [some (.inr (.inl 21)), some (.inr (.inl 25)), some (.inl a_), some (.inl y), o_4], [], n, D, s0, p0, c0) Q) :
  ∀ (m : Nat) (y : Int) (o_4 : Option mi_V) (s0 : Nat → Int) (p0 : Nat → Nat) (c0 : Nat → Nat → Int) (b_y : 0 ≤ y ∧ y ≤ 64) (hS0 : bS s0) (hF0 : fr s s0 [902, 2001, 2002, 2003, 2004, 2107, 2108, 2109, 2110, 2111, 2112, 2113, 2114, 2115, 2116]) (hC0 : bC D c0) (hW0 : wp q g n D p0 s0) (hP0 : frp p p0 [2103, 2104]) (hK0 : fk p c n p0 c0 [900, 901, 2103, 2104, 2504]) (i0 : y ≤ s 2501) (i1 : s 2001 ≤ 32768 → s0 2001 ≤ 32768), (s 2501 - y).toNat < m → tt Zi d 32 (40, [some (.inr (.inl 21)), some (.inr (.inl 25)), some (.inl a_), some (.inl y), o_4], [], n, D, s0, p0, c0) Q := by
  intro m
  induction m with
  | zero => intro y o_4 s0 p0 c0 b_y hS0 hF0 hC0 hW0 hP0 hK0 i0 i1 hm; exact absurd hm (by omega)
  | succ m ih =>
    intro y o_4 s0 p0 c0 b_y hS0 hF0 hC0 hW0 hP0 hK0 i0 i1 hm
    have e1 : s0 2500 = s 2500 := hF0 2500 (by decide)
    have b2 : 0 ≤ (s0 2500) ∧ (s0 2500) ≤ 64 := hS0 2500
    have b3 : 0 ≤ (s 2500) ∧ (s 2500) ≤ 64 := hS 2500
    have e4 : s0 2501 = s 2501 := hF0 2501 (by decide)
    have b5 : 0 ≤ (s0 2501) ∧ (s0 2501) ≤ 64 := hS0 2501
    have b6 : 0 ≤ (s 2501) ∧ (s 2501) ≤ 64 := hS 2501
    have e7 : s0 2502 = s 2502 := hF0 2502 (by decide)
    have b8 : 0 ≤ (s0 2502) ∧ (s0 2502) ≤ 3 := hS0 2502
    have b9 : 0 ≤ (s 2502) ∧ (s 2502) ≤ 3 := hS 2502
    have e10 : s0 2106 = s 2106 := hF0 2106 (by decide)
    have b11 : 0 ≤ (s0 2106) ∧ (s0 2106) ≤ 64 := hS0 2106
    have b12 : 0 ≤ (s 2106) ∧ (s 2106) ≤ 64 := hS 2106
    have b13 : ln D (p0 2105) ≤ 12288 := (hW0).s21.2.2
    have el : ln D (p0 2105) = ln D (p 2105) := by rw [hP0 2105 (by decide)]
    refine tt_k 3 (S' := (45, [some (.inr (.inl 21)), some (.inr (.inl 25)), some (.inl a_), some (.inl y), o_4], [.inl (s0 2501), .inl y], n, D, s0, p0, c0)) rfl ?_
    refine tb_ge (x := y) (y := (s0 2501)) rfl rfl (by omega) (fun h14 => ?_) (fun h14 => ?_)
    · show tt Zi d 32 (149, [some (.inr (.inl 21)), some (.inr (.inl 25)), some (.inl a_), some (.inl y), o_4], [], n, D, s0, p0, c0) _
      exact hK y (o_4) s0 p0 c0 (by omega) hS0 hF0 hC0 hW0 hP0 hK0 (show y ≤ s 2501 by omega) (show s 2001 ≤ 32768 → (s0 2001) ≤ 32768 by omega) trivial
    · show tt Zi d 32 (48, [some (.inr (.inl 21)), some (.inr (.inl 25)), some (.inl a_), some (.inl y), o_4], [], n, D, s0, p0, c0) _
      refine tt_k 5 (S' := (53, [some (.inr (.inl 21)), some (.inr (.inl 25)), some (.inl a_), some (.inl y), o_4], [.inl y, .inl 0, .inl a_, .inr (.inl 25), .inr (.inl 21)], n, D, s0, p0, c0)) rfl ?_
      refine tt_cl (by omega) rfl (g_index25 (Zi := Zi) (q := q) (n := n) (D := D) (s := s0) (p := p0) (c := c0) (by omega) hz (by omega) hK0.1 hS0 hC0 hW0 a_ 0 y (by omega) (by omega) (by omega) (show a_ < (s0 2502) ∧ 0 < (s0 2500) ∧ y < (s0 2501) by omega)) ?_
      rintro _ _ ⟨r15, rfl, rfl, b16, k17, k18⟩
      show tt Zi d 32 (56, [some (.inr (.inl 21)), some (.inr (.inl 25)), some (.inl a_), some (.inl y), o_4], [.inl r15, .inr (.inl 21)], n, D, s0, p0, c0) _
      replace k17 : r15 = (a_ * (s0 2501) + y) * (s0 2500) + 0 := k17
      replace k18 : r15 + (s0 2500) - 0 ≤ (s0 2500) * (s0 2501) * (s0 2502) := k18
      have hmm : (s0 2500) * (s0 2501) * (s0 2502) = s 2500 * s 2501 * s 2502 := by rw [show (s0 2500) = s 2500 by omega, show (s0 2501) = s 2501 by omega, show (s0 2502) = s 2502 by omega]
      refine tt_k 2 (S' := (60, [some (.inr (.inl 21)), some (.inr (.inl 25)), some (.inl a_), some (.inl y), o_4], [.inr (.inl 21)], n, D, (us s0 2107 r15), p0, c0)) rfl ?_
      refine tt_cl (by omega) rfl (g_openRow21 (Zi := Zi) (q := q) (n := n) (D := D) (s := (us s0 2107 r15)) (p := p0) (c := c0) (by omega) hz (by omega) hK0.1 (bS_us hS0 (show 0 ≤ r15 ∧ r15 ≤ 12288 by omega)) hC0 (wp_us (by decide) hW0) ) ?_
      rintro _ _ ⟨p19, c20, rfl, rfl, hC20, hW21, g22, kf23⟩
      have FK24 : fk p c n p19 c20 [900, 901, 2103, 2104, 2504] := fk_tr hK0 kf23 (by decide)
      show tt Zi d 32 (63, [some (.inr (.inl 21)), some (.inr (.inl 25)), some (.inl a_), some (.inl y), o_4], [], n, D, (us s0 2107 r15), p19, c20) _
      have e25 : ln D (p19 2105) = ln D (p0 2105) := (congrArg (ln D) (g22 2105 (by decide)))
      refine tt_k 2 (S' := (66, [some (.inr (.inl 21)), some (.inr (.inl 25)), some (.inl a_), some (.inl y), some (.inl 0)], [], n, D, (us s0 2107 r15), p19, c20)) rfl ?_
      refine g_tellPlane21_25_L66 (Zi := Zi) (q := q) (n := n) (D := D) (s := (us s0 2107 r15)) (p := p19) (c := c20) hd hz (by omega) FK24.1 (bS_us hS0 (show 0 ≤ r15 ∧ r15 ≤ 12288 by omega)) hC20 hW21  a_ y (by omega) (by omega) (show r15 + (s0 2106) ≤ (ln D (p19 2105) : Int) by omega) (fun H h => hX12 H (cX_mono (cX_trx FK24 (fr_wk (show fr s (us s0 2107 r15) [902, 2001, 2002, 2003, 2004, 2107, 2108, 2109, 2110, 2111, 2112, 2113, 2114, 2115, 2116] from (fr_us (by decide) hF0)) (by decide)) h (by decide)) (by omega))) ?_ _ 0 (us s0 2107 r15) c20 (by omega) (bS_us hS0 (show 0 ≤ r15 ∧ r15 ≤ 12288 by omega)) fr_rf hC20 hW21 (fk_rf FK24.1) (fun h => h) (Nat.lt_succ_self _)
      intro x26 s27 c28 b29 hS27 f30 hC28 hW31 kf32 i33 hx34
      show tt Zi d 32 (139, [some (.inr (.inl 21)), some (.inr (.inl 25)), some (.inl a_), some (.inl y), some (.inl x26)], [], n, D, s27, p19, c28) _
      have FK35 : fk p c n p19 c28 [900, 901, 2103, 2104, 2504] := fk_tr FK24 kf32 (by decide)
      replace i33 : (s0 2001) ≤ 32768 → (s27 2001) ≤ 32768 := i33
      have b36 : 0 ≤ (s27 2001) ∧ (s27 2001) ≤ 100000 := hS27 2001
      have e37 : s27 2500 = (s0 2500) := (f30 2500 (by decide))
      have b38 : 0 ≤ (s27 2500) ∧ (s27 2500) ≤ 64 := hS27 2500
      have e39 : s27 2501 = (s0 2501) := (f30 2501 (by decide))
      have b40 : 0 ≤ (s27 2501) ∧ (s27 2501) ≤ 64 := hS27 2501
      have e41 : s27 2502 = (s0 2502) := (f30 2502 (by decide))
      have b42 : 0 ≤ (s27 2502) ∧ (s27 2502) ≤ 3 := hS27 2502
      have e43 : s27 2106 = (s0 2106) := (f30 2106 (by decide))
      have b44 : 0 ≤ (s27 2106) ∧ (s27 2106) ≤ 64 := hS27 2106
      have e45 : s27 2107 = r15 := (f30 2107 (by decide))
      have b46 : 0 ≤ (s27 2107) ∧ (s27 2107) ≤ 12288 := hS27 2107
      refine tt_k 1 (S' := (140, [some (.inr (.inl 21)), some (.inr (.inl 25)), some (.inl a_), some (.inl y), some (.inl x26)], [.inr (.inl 21)], n, D, s27, p19, c28)) rfl ?_
      refine tt_cl (by omega) rfl (g_closeRow21_25 (Zi := Zi) (q := q) (n := n) (D := D) (s := s27) (p := p19) (c := c28) (by omega) hz (by omega) FK35.1 hS27 hC28 hW31 (show (s27 2107) + (s27 2106) ≤ (ln D (p19 2105) : Int) by omega) ((((g22 2105 (by decide)).trans (hP0 2105 (by decide)))).trans (hq3.trans (((g22 2504 (by decide)).trans (hP0 2504 (by decide)))).symm))) ?_
      rintro _ _ ⟨c47, rfl, rfl, hC47, kf48⟩
      have FK49 : fk p c n p19 c47 [900, 901, 2103, 2104, 2504] := fk_tr FK35 kf48 (by decide)
      show tt Zi d 32 (143, [some (.inr (.inl 21)), some (.inr (.inl 25)), some (.inl a_), some (.inl y), some (.inl x26)], [], n, D, s27, p19, c47) _
      refine tt_k 2 (S' := (40, [some (.inr (.inl 21)), some (.inr (.inl 25)), some (.inl a_), some (.inl (y + 1)), some (.inl x26)], [], n, D, s27, p19, c47)) rfl ?_
      exact ih (y + 1) (some (.inl x26)) s27 p19 c47 (by omega) hS27 (fr_tr (fr_us (by decide) hF0) f30 (by decide)) hC47 hW31 (frp_tr hP0 g22 (by decide)) FK49 (show (y + 1) ≤ s 2501 by omega) (show s 2001 ≤ 32768 → (s27 2001) ≤ 32768 by omega) (show (s 2501 - (y + 1)).toNat < m by omega)
set_option maxRecDepth 100000 in
set_option maxHeartbeats 4000000 in
theorem g_tellPlane21_25 {g : Nat → Int} {Zi : Nat → Option (Nat × (Nat → Int))} {d n q : Nat} {D : Nat → Nat × Nat} {s : Nat → Int} {p : Nat → Nat} {c : Nat → Nat → Int} (hd : 8 ≤ d) (hz : zk Zi) (hq : q + 16 ≤ 400000) (hD : wd n p) (hS : bS s) (hC : bC D c) (hW : wp q g n D p s) (a_ : Int) (b_a_ : 0 ≤ a_ ∧ a_ ≤ 2) (hp0 : a_ < s 2502 ∧ 1 ≤ s 2500) : tt Zi d 32 (0, [some (.inr (.inl 21)), some (.inr (.inl 25)), some (.inl a_), none, none], [], n, D, s, p, c) (fun R H => (∃ (s' : Nat → Int) (p' : Nat → Nat) (c' : Nat → Nat → Int), R = .inl none ∧ H = (n, D, s', p', c') ∧ bS s' ∧ bC D c' ∧ wp q g n D p' s' ∧ fr s s' [902, 2001, 2002, 2003, 2004, 2106, 2107, 2108, 2109, 2110, 2111, 2112, 2113, 2114, 2115, 2116] ∧ frp p p' [900, 901, 2103, 2104, 2105] ∧ fk p c n p' c' [900, 901, 2103, 2104, 2504] ∧ (s 2001 ≤ 32768 → s' 2001 ≤ 32768)) ∨ (R = .inr 12 ∧ cX ((q + 1)) g s p c [900, 901, 2103, 2104, 2504] LXR H)) := by
  have b1 : 0 ≤ (s 2500) ∧ (s 2500) ≤ 64 := hS 2500
  have b2 : 0 ≤ (s 2501) ∧ (s 2501) ≤ 64 := hS 2501
  have b3 : 0 ≤ (s 2502) ∧ (s 2502) ≤ 3 := hS 2502
  refine tt_k 13 (S' := (27, [some (.inr (.inl 21)), some (.inr (.inl 25)), some (.inl a_), none, none], [.inl (s 807), .inr (.inl 9)], n, D, (us s 2106 (s 2500)), (up p 2105 (p 2504)), c)) rfl ?_
  have b4 : 0 ≤ (s 807) ∧ (s 807) ≤ 65536 := hS 807
  have FK5 : fk p c n (up p 2105 (p 2504)) c [900, 901, 2103, 2104, 2504] := (fk_up (by decide) (fk_rf hD))
  refine tt_cl (by omega) rfl (g_begin (Zi := Zi) (q := q) (n := n) (D := D) (s := (us s 2106 (s 2500))) (p := (up p 2105 (p 2504))) (c := c) (by omega) hz (by omega) FK5.1 (bS_us hS (show 0 ≤ (s 2500) ∧ (s 2500) ≤ 64 by omega)) hC (wp_us (by decide) (wp_sa21_25 hW)) (s 807) (by omega)) ?_
  rintro _ _ ⟨s6, c7, rfl, rfl, hS6, hC7, hW8, f9, kf10⟩
  have FK11 : fk p c n (up p 2105 (p 2504)) c7 [900, 901, 2103, 2104, 2504] := fk_tr FK5 kf10 (by decide)
  show tt Zi d 32 (30, [some (.inr (.inl 21)), some (.inr (.inl 25)), some (.inl a_), none, none], [], n, D, s6, (up p 2105 (p 2504)), c7) _
  have e12 : s6 2500 = (s 2500) := (f9 2500 (by decide))
  have b13 : 0 ≤ (s6 2500) ∧ (s6 2500) ≤ 64 := hS6 2500
  have e14 : s6 2501 = (s 2501) := (f9 2501 (by decide))
  have b15 : 0 ≤ (s6 2501) ∧ (s6 2501) ≤ 64 := hS6 2501
  have e16 : s6 2502 = (s 2502) := (f9 2502 (by decide))
  have b17 : 0 ≤ (s6 2502) ∧ (s6 2502) ≤ 3 := hS6 2502
  have e18 : s6 2106 = (s 2500) := (f9 2106 (by decide))
  have b19 : 0 ≤ (s6 2106) ∧ (s6 2106) ≤ 64 := hS6 2106
  have e20 : s6 2107 = (s 2107) := (f9 2107 (by decide))
  have b21 : 0 ≤ (s6 2107) ∧ (s6 2107) ≤ 12288 := hS6 2107
  have b22 : 0 ≤ (s 2107) ∧ (s 2107) ≤ 12288 := hS 2107
  have e23 : s6 2001 = (s 2001) := (f9 2001 (by decide))
  have b24 : 0 ≤ (s6 2001) ∧ (s6 2001) ≤ 100000 := hS6 2001
  have b25 : 0 ≤ (s 2001) ∧ (s 2001) ≤ 100000 := hS 2001
  refine tt_k 3 (S' := (35, [some (.inr (.inl 21)), some (.inr (.inl 25)), some (.inl a_), none, none], [.inl 0, .inr (.inl (p 2104))], n, D, s6, (up p 2105 (p 2504)), c7)) rfl ?_
  refine tt_cl (by omega) rfl (g_fill (A := (p 2104)) (m := 66) (s := s6) (p := (up p 2105 (p 2504))) ((sw_arr (hW8).a21 rfl rfl).2) (by omega) (by rw [(show bC_lo D (p 2104) = 0 ∧ bC_hi D (p 2104) = 65535 from ((sw_21 (hW8).a21).2)).1, (show bC_lo D (p 2104) = 0 ∧ bC_hi D (p 2104) = 65535 from ((sw_21 (hW8).a21).2)).2]; decide) hC7) ?_
  rintro _ _ ⟨c26, rfl, rfl, hC26, fc26, ec26, zc26⟩
  show tt Zi d 32 (38, [some (.inr (.inl 21)), some (.inr (.inl 25)), some (.inl a_), none, none], [], n, D, s6, (up p 2105 (p 2504)), c26) _
  have FK27 : fk p c n (up p 2105 (p 2504)) c26 [900, 901, 2103, 2104, 2504] := fk_st (k := 2104) FK11 ec26 (by decide) rfl
  refine tt_k 2 (S' := (40, [some (.inr (.inl 21)), some (.inr (.inl 25)), some (.inl a_), some (.inl 0), none], [], n, D, s6, (up p 2105 (p 2504)), c26)) rfl ?_
  refine g_tellPlane21_25_L40 (Zi := Zi) (q := q) (n := n) (D := D) (s := s6) (p := (up p 2105 (p 2504))) (c := c26) hd hz (by omega) FK27.1 hS6 hC26 hW8  a_ (by omega) (show _ from (hW8).w25) (show (s6 2106) = (s6 2500) by omega) (show a_ < (s6 2502) ∧ 1 ≤ (s6 2500) by omega) rfl (fun H h => (Or.inr ⟨rfl, cX_mono (cX_trx FK27 (show fr s s6 LXR from (fr_tr (fr_us (by decide) fr_rf) f9 (by decide))) h (by decide)) (by omega)⟩)) ?_ _ 0 (none) s6 (up p 2105 (p 2504)) c26 (by omega) hS6 fr_rf hC26 hW8 frp_rf (fk_rf FK27.1) (show 0 ≤ (s6 2501) by omega) (fun h => h) (Nat.lt_succ_self _)
  intro x28 x29 s30 p31 c32 b33 hS30 f34 hC32 hW35 g36 kf37 i38 i39 hx40
  show tt Zi d 32 (149, [some (.inr (.inl 21)), some (.inr (.inl 25)), some (.inl a_), some (.inl x28), x29], [], n, D, s30, p31, c32) _
  have FK41 : fk p c n p31 c32 [900, 901, 2103, 2104, 2504] := fk_tr FK27 kf37 (by decide)
  replace i38 : x28 ≤ (s6 2501) := i38
  replace i39 : (s6 2001) ≤ 32768 → (s30 2001) ≤ 32768 := i39
  have b42 : 0 ≤ (s30 2001) ∧ (s30 2001) ≤ 100000 := hS30 2001
  have e43 : s30 2500 = (s6 2500) := (f34 2500 (by decide))
  have b44 : 0 ≤ (s30 2500) ∧ (s30 2500) ≤ 64 := hS30 2500
  have e45 : s30 2501 = (s6 2501) := (f34 2501 (by decide))
  have b46 : 0 ≤ (s30 2501) ∧ (s30 2501) ≤ 64 := hS30 2501
  have e47 : s30 2502 = (s6 2502) := (f34 2502 (by decide))
  have b48 : 0 ≤ (s30 2502) ∧ (s30 2502) ≤ 3 := hS30 2502
  have e49 : s30 2106 = (s6 2106) := (f34 2106 (by decide))
  have b50 : 0 ≤ (s30 2106) ∧ (s30 2106) ≤ 64 := hS30 2106
  have e51 : ln D (p31 2105) = ln D (p 2504) := (congrArg (ln D) (g36 2105 (by decide)))
  refine tt_k 2 (S' := (153, [some (.inr (.inl 21)), some (.inr (.inl 25)), some (.inl a_), some (.inl x28), x29], [.inr (.inl 9)], n, D, s30, p31, c32)) rfl ?_
  refine tt_cl (by omega) rfl (g_keep (Zi := Zi) (q := q) (n := n) (D := D) (s := s30) (p := p31) (c := c32) (by omega) hz (by omega) FK41.1 hS30 hC32 hW35 ) ?_
  rintro _ _ ⟨p52, rfl, rfl, hW53, g54, kf55⟩
  have FK56 : fk p c n p52 c32 [900, 901, 2103, 2104, 2504] := fk_tr FK41 kf55 (by decide)
  show tt Zi d 32 (156, [some (.inr (.inl 21)), some (.inr (.inl 25)), some (.inl a_), some (.inl x28), x29], [], n, D, s30, p52, c32) _
  have e57 : ln D (p52 2105) = ln D (p31 2105) := (congrArg (ln D) (g54 2105 (by decide)))
  exact tt_rtv rfl rfl (Or.inl ⟨s30, p52, c32, rfl, rfl, hS30, hC32, hW53, (fr_tr (fr_tr (fr_us (by decide) fr_rf) f9 (by decide)) f34 (by decide)), (frp_tr (frp_tr (frp_up (by decide) frp_rf) g36 (by decide)) g54 (by decide)), FK56, by show s 2001 ≤ 32768 → (s30 2001) ≤ 32768; omega⟩)
set_option maxRecDepth 100000 in
set_option maxHeartbeats 4000000 in
theorem g_tellPlane21_27_L66 {g : Nat → Int} {Zi : Nat → Option (Nat × (Nat → Int))} {d n q : Nat} {D : Nat → Nat × Nat} {s : Nat → Int} {p : Nat → Nat} {c : Nat → Nat → Int}  {Q : mi_Rs → mi_H → Prop} (hd : 8 ≤ d) (hz : zk Zi) (hq : q + 16 ≤ 400001) (hD : wd n p) (hS : bS s) (hC : bC D c) (hW : wp q g n D p s) (a_ : Int) (y : Int) (b_a_ : 0 ≤ a_ ∧ a_ ≤ 2) (b_y : 0 ≤ y ∧ y ≤ 63) (hq0 : s 2107 + s 2106 ≤ (ln D (p 2105) : Int)) (hX12 : ∀ H, cX (q + 1) g s p c [900, 901, 2103, 2104, 2704] LXR H → Q (.inr 12) H)
  (hK : ∀ (x : Int) (s0 : Nat → Int) (c0 : Nat → Nat → Int) (b_x : 0 ≤ x ∧ x ≤ 65) (hS0 : bS s0) (hF0 : fr s s0 [902, 2001, 2002, 2003, 2004, 2108, 2109, 2110, 2111, 2112, 2113, 2114, 2115, 2116]) (hC0 : bC D c0) (hW0 : wp q g n D p s0) (hK0 : fk p c n p c0 [900, 901, 2103, 2104, 2704]) (i0 : s 2001 ≤ 32768 → s0 2001 ≤ 32768), (True) → tt Zi d 32 (139, [some (.inr (.inl 21)), some (.inr (.inl 27)), some (.inl a_), some (.inl y), some (.inl x)], [], n, D, s0, p, c0) Q) :
  ∀ (m : Nat) (x : Int) (s0 : Nat → Int) (c0 : Nat → Nat → Int) (b_x : 0 ≤ x ∧ x ≤ 65) (hS0 : bS s0) (hF0 : fr s s0 [902, 2001, 2002, 2003, 2004, 2108, 2109, 2110, 2111, 2112, 2113, 2114, 2115, 2116]) (hC0 : bC D c0) (hW0 : wp q g n D p s0) (hK0 : fk p c n p c0 [900, 901, 2103, 2104, 2704]) (i0 : s 2001 ≤ 32768 → s0 2001 ≤ 32768), (65 - x).toNat < m → tt Zi d 32 (66, [some (.inr (.inl 21)), some (.inr (.inl 27)), some (.inl a_), some (.inl y), some (.inl x)], [], n, D, s0, p, c0) Q := by
  intro m
  induction m with
  | zero => intro x s0 c0 b_x hS0 hF0 hC0 hW0 hK0 i0 hm; exact absurd hm (by omega)
  | succ m ih =>
    intro x s0 c0 b_x hS0 hF0 hC0 hW0 hK0 i0 hm
    have e1 : s0 2700 = s 2700 := hF0 2700 (by decide)
    have b2 : 0 ≤ (s0 2700) ∧ (s0 2700) ≤ 64 := hS0 2700
    have b3 : 0 ≤ (s 2700) ∧ (s 2700) ≤ 64 := hS 2700
    have e4 : s0 2701 = s 2701 := hF0 2701 (by decide)
    have b5 : 0 ≤ (s0 2701) ∧ (s0 2701) ≤ 64 := hS0 2701
    have b6 : 0 ≤ (s 2701) ∧ (s 2701) ≤ 64 := hS 2701
    have e7 : s0 2702 = s 2702 := hF0 2702 (by decide)
    have b8 : 0 ≤ (s0 2702) ∧ (s0 2702) ≤ 3 := hS0 2702
    have b9 : 0 ≤ (s 2702) ∧ (s 2702) ≤ 3 := hS 2702
    have e10 : s0 2106 = s 2106 := hF0 2106 (by decide)
    have b11 : 0 ≤ (s0 2106) ∧ (s0 2106) ≤ 64 := hS0 2106
    have b12 : 0 ≤ (s 2106) ∧ (s 2106) ≤ 64 := hS 2106
    have e13 : s0 2107 = s 2107 := hF0 2107 (by decide)
    have b14 : 0 ≤ (s0 2107) ∧ (s0 2107) ≤ 12288 := hS0 2107
    have b15 : 0 ≤ (s 2107) ∧ (s 2107) ≤ 12288 := hS 2107
    have b16 : ln D (p 2105) ≤ 12288 := (hW0).s21.2.2
    refine tt_k 3 (S' := (72, [some (.inr (.inl 21)), some (.inr (.inl 27)), some (.inl a_), some (.inl y), some (.inl x)], [.inl (s0 2106), .inl x], n, D, s0, p, c0)) rfl ?_
    refine tb_ge (x := x) (y := (s0 2106)) rfl rfl (by omega) (fun h17 => ?_) (fun h17 => ?_)
    · show tt Zi d 32 (139, [some (.inr (.inl 21)), some (.inr (.inl 27)), some (.inl a_), some (.inl y), some (.inl x)], [], n, D, s0, p, c0) _
      exact hK x s0 c0 (by omega) hS0 hF0 hC0 hW0 hK0 (show s 2001 ≤ 32768 → (s0 2001) ≤ 32768 by omega) trivial
    · show tt Zi d 32 (75, [some (.inr (.inl 21)), some (.inr (.inl 27)), some (.inl a_), some (.inl y), some (.inl x)], [], n, D, s0, p, c0) _
      refine tt_k 2 (S' := (78, [some (.inr (.inl 21)), some (.inr (.inl 27)), some (.inl a_), some (.inl y), some (.inl x)], [.inl x, .inr (.inl 21)], n, D, s0, p, c0)) rfl ?_
      refine tt_cl (by omega) rfl (g_look21 (Zi := Zi) (q := q) (n := n) (D := D) (s := s0) (p := p) (c := c0) (by omega) hz (by omega) hK0.1 hS0 hC0 hW0 x (by omega)) ?_
      rintro _ _ ⟨s18, rfl, rfl, hS18, hW19, f20⟩
      show tt Zi d 32 (81, [some (.inr (.inl 21)), some (.inr (.inl 27)), some (.inl a_), some (.inl y), some (.inl x)], [], n, D, s18, p, c0) _
      have e21 : s18 2700 = (s0 2700) := (f20 2700 (by decide))
      have b22 : 0 ≤ (s18 2700) ∧ (s18 2700) ≤ 64 := hS18 2700
      have e23 : s18 2701 = (s0 2701) := (f20 2701 (by decide))
      have b24 : 0 ≤ (s18 2701) ∧ (s18 2701) ≤ 64 := hS18 2701
      have e25 : s18 2702 = (s0 2702) := (f20 2702 (by decide))
      have b26 : 0 ≤ (s18 2702) ∧ (s18 2702) ≤ 3 := hS18 2702
      have e27 : s18 2106 = (s0 2106) := (f20 2106 (by decide))
      have b28 : 0 ≤ (s18 2106) ∧ (s18 2106) ≤ 64 := hS18 2106
      have e29 : s18 2107 = (s0 2107) := (f20 2107 (by decide))
      have b30 : 0 ≤ (s18 2107) ∧ (s18 2107) ≤ 12288 := hS18 2107
      have e31 : s18 2001 = (s0 2001) := (f20 2001 (by decide))
      have b32 : 0 ≤ (s18 2001) ∧ (s18 2001) ≤ 100000 := hS18 2001
      have b33 : 0 ≤ (s0 2001) ∧ (s0 2001) ≤ 100000 := hS0 2001
      refine tt_k 2 (S' := (85, [some (.inr (.inl 21)), some (.inr (.inl 27)), some (.inl a_), some (.inl y), some (.inl x)], [.inl (s18 2111)], n, D, s18, p, c0)) rfl ?_
      have b34 : 0 ≤ (s18 2111) ∧ (s18 2111) ≤ 366 := hS18 2111
      refine tz_eq (x := (s18 2111)) rfl rfl (by omega) (fun h35 => ?_) (fun h35 => ?_)
      · show tt Zi d 32 (101, [some (.inr (.inl 21)), some (.inr (.inl 27)), some (.inl a_), some (.inl y), some (.inl x)], [], n, D, s18, p, c0) _
        refine tt_k 3 (S' := (106, [some (.inr (.inl 21)), some (.inr (.inl 27)), some (.inl a_), some (.inl y), some (.inl x)], [.inl x, .inr (.inl 21), .inl x], n, D, s18, p, c0)) rfl ?_
        refine tt_cl (by omega) rfl (g_tellRun21 (Zi := Zi) (q := q) (n := n) (D := D) (s := s18) (p := p) (c := c0) (by omega) hz (by omega) hK0.1 hS18 hC0 hW19 x (by omega) (show x < (s18 2106) by omega)) ?_
        rintro _ H1 (⟨s36, c37, r38, rfl, rfl, hS36, hC37, hW39, f40, kf41, b42, k43, k44⟩ | ⟨rfl, hY45⟩)
        rotate_left
        · exact tt_ax rfl (hX12 _ (cX_mono (cX_trx hK0 (fr_wk (show fr s s18 [902, 2001, 2002, 2003, 2004, 2108, 2109, 2110, 2111, 2112, 2113, 2114, 2115, 2116] from (fr_tr hF0 f20 (by decide))) (by decide)) hY45 (by decide)) (by omega)))
        have FK46 : fk p c n p c37 [900, 901, 2103, 2104, 2704] := fk_tr hK0 kf41 (by decide)
        show tt Zi d 32 (109, [some (.inr (.inl 21)), some (.inr (.inl 27)), some (.inl a_), some (.inl y), some (.inl x)], [.inl r38, .inl x], n, D, s36, p, c37) _
        replace k43 : x + r38 ≤ (s18 2106) := k43
        replace k44 : (s18 2001) ≤ 32768 → (s36 2001) ≤ 32768 := k44
        have b47 : 0 ≤ (s36 2001) ∧ (s36 2001) ≤ 100000 := hS36 2001
        have e48 : s36 2700 = (s18 2700) := (f40 2700 (by decide))
        have b49 : 0 ≤ (s36 2700) ∧ (s36 2700) ≤ 64 := hS36 2700
        have e50 : s36 2701 = (s18 2701) := (f40 2701 (by decide))
        have b51 : 0 ≤ (s36 2701) ∧ (s36 2701) ≤ 64 := hS36 2701
        have e52 : s36 2702 = (s18 2702) := (f40 2702 (by decide))
        have b53 : 0 ≤ (s36 2702) ∧ (s36 2702) ≤ 3 := hS36 2702
        have e54 : s36 2106 = (s18 2106) := (f40 2106 (by decide))
        have b55 : 0 ≤ (s36 2106) ∧ (s36 2106) ≤ 64 := hS36 2106
        have e56 : s36 2107 = (s18 2107) := (f40 2107 (by decide))
        have b57 : 0 ≤ (s36 2107) ∧ (s36 2107) ≤ 12288 := hS36 2107
        refine tt_k 5 (S' := (118, [some (.inr (.inl 21)), some (.inr (.inl 27)), some (.inl a_), some (.inl y), some (.inl (x + r38))], [.inl (s36 2106), .inl (x + r38)], n, D, s36, p, c37)) rfl ?_
        refine tb_ge (x := (x + r38)) (y := (s36 2106)) rfl rfl (by omega) (fun h58 => ?_) (fun h58 => ?_)
        · show tt Zi d 32 (133, [some (.inr (.inl 21)), some (.inr (.inl 27)), some (.inl a_), some (.inl y), some (.inl (x + r38))], [], n, D, s36, p, c37) _
          refine tt_k 2 (S' := (66, [some (.inr (.inl 21)), some (.inr (.inl 27)), some (.inl a_), some (.inl y), some (.inl ((x + r38) + 1))], [], n, D, s36, p, c37)) rfl ?_
          exact ih ((x + r38) + 1) s36 c37 (by omega) hS36 (fr_tr (fr_tr hF0 f20 (by decide)) f40 (by decide)) hC37 hW39 FK46 (show s 2001 ≤ 32768 → (s36 2001) ≤ 32768 by omega) (show (65 - ((x + r38) + 1)).toNat < m by omega)
        · show tt Zi d 32 (121, [some (.inr (.inl 21)), some (.inr (.inl 27)), some (.inl a_), some (.inl y), some (.inl (x + r38))], [], n, D, s36, p, c37) _
          refine tt_k 2 (S' := (124, [some (.inr (.inl 21)), some (.inr (.inl 27)), some (.inl a_), some (.inl y), some (.inl (x + r38))], [.inl (x + r38), .inr (.inl 21)], n, D, s36, p, c37)) rfl ?_
          refine tt_cl (by omega) rfl (g_aimStop21 (Zi := Zi) (q := q) (n := n) (D := D) (s := s36) (p := p) (c := c37) (by omega) hz (by omega) FK46.1 hS36 hC37 hW39 (x + r38) (by omega)) ?_
          rintro _ _ ⟨s59, rfl, rfl, hS59, hW60, f61⟩
          show tt Zi d 32 (127, [some (.inr (.inl 21)), some (.inr (.inl 27)), some (.inl a_), some (.inl y), some (.inl (x + r38))], [], n, D, s59, p, c37) _
          have e62 : s59 2700 = (s36 2700) := (f61 2700 (by decide))
          have b63 : 0 ≤ (s59 2700) ∧ (s59 2700) ≤ 64 := hS59 2700
          have e64 : s59 2701 = (s36 2701) := (f61 2701 (by decide))
          have b65 : 0 ≤ (s59 2701) ∧ (s59 2701) ≤ 64 := hS59 2701
          have e66 : s59 2702 = (s36 2702) := (f61 2702 (by decide))
          have b67 : 0 ≤ (s59 2702) ∧ (s59 2702) ≤ 3 := hS59 2702
          have e68 : s59 2106 = (s36 2106) := (f61 2106 (by decide))
          have b69 : 0 ≤ (s59 2106) ∧ (s59 2106) ≤ 64 := hS59 2106
          have e70 : s59 2107 = (s36 2107) := (f61 2107 (by decide))
          have b71 : 0 ≤ (s59 2107) ∧ (s59 2107) ≤ 12288 := hS59 2107
          have e72 : s59 2001 = (s36 2001) := (f61 2001 (by decide))
          have b73 : 0 ≤ (s59 2001) ∧ (s59 2001) ≤ 100000 := hS59 2001
          refine tt_k 2 (S' := (130, [some (.inr (.inl 21)), some (.inr (.inl 27)), some (.inl a_), some (.inl y), some (.inl (x + r38))], [.inl (x + r38), .inr (.inl 21)], n, D, s59, p, c37)) rfl ?_
          refine tt_cl (by omega) rfl (g_tellStop21 (Zi := Zi) (q := q) (n := n) (D := D) (s := s59) (p := p) (c := c37) (by omega) hz (by omega) FK46.1 hS59 hC37 hW60 (x + r38) (by omega)) ?_
          rintro _ H1 (⟨s74, c75, rfl, rfl, hS74, hC75, hW76, f77, kf78, k79⟩ | ⟨rfl, hY80⟩)
          rotate_left
          · exact tt_ax rfl (hX12 _ (cX_mono (cX_trx FK46 (fr_wk (show fr s s59 [902, 2001, 2002, 2003, 2004, 2108, 2109, 2110, 2111, 2112, 2113, 2114, 2115, 2116] from (fr_tr (fr_tr (fr_tr hF0 f20 (by decide)) f40 (by decide)) f61 (by decide))) (by decide)) hY80 (by decide)) (by omega)))
          have FK81 : fk p c n p c75 [900, 901, 2103, 2104, 2704] := fk_tr FK46 kf78 (by decide)
          show tt Zi d 32 (133, [some (.inr (.inl 21)), some (.inr (.inl 27)), some (.inl a_), some (.inl y), some (.inl (x + r38))], [], n, D, s74, p, c75) _
          replace k79 : (s59 2001) ≤ 32768 → (s74 2001) ≤ 32768 := k79
          have b82 : 0 ≤ (s74 2001) ∧ (s74 2001) ≤ 100000 := hS74 2001
          have e83 : s74 2700 = (s59 2700) := (f77 2700 (by decide))
          have b84 : 0 ≤ (s74 2700) ∧ (s74 2700) ≤ 64 := hS74 2700
          have e85 : s74 2701 = (s59 2701) := (f77 2701 (by decide))
          have b86 : 0 ≤ (s74 2701) ∧ (s74 2701) ≤ 64 := hS74 2701
          have e87 : s74 2702 = (s59 2702) := (f77 2702 (by decide))
          have b88 : 0 ≤ (s74 2702) ∧ (s74 2702) ≤ 3 := hS74 2702
          have e89 : s74 2106 = (s59 2106) := (f77 2106 (by decide))
          have b90 : 0 ≤ (s74 2106) ∧ (s74 2106) ≤ 64 := hS74 2106
          have e91 : s74 2107 = (s59 2107) := (f77 2107 (by decide))
          have b92 : 0 ≤ (s74 2107) ∧ (s74 2107) ≤ 12288 := hS74 2107
          refine tt_k 2 (S' := (66, [some (.inr (.inl 21)), some (.inr (.inl 27)), some (.inl a_), some (.inl y), some (.inl ((x + r38) + 1))], [], n, D, s74, p, c75)) rfl ?_
          exact ih ((x + r38) + 1) s74 c75 (by omega) hS74 (fr_tr (fr_tr (fr_tr (fr_tr hF0 f20 (by decide)) f40 (by decide)) f61 (by decide)) f77 (by decide)) hC75 hW76 FK81 (show s 2001 ≤ 32768 → (s74 2001) ≤ 32768 by omega) (show (65 - ((x + r38) + 1)).toNat < m by omega)
      · show tt Zi d 32 (88, [some (.inr (.inl 21)), some (.inr (.inl 27)), some (.inl a_), some (.inl y), some (.inl x)], [], n, D, s18, p, c0) _
        refine tt_k 1 (S' := (89, [some (.inr (.inl 21)), some (.inr (.inl 27)), some (.inl a_), some (.inl y), some (.inl x)], [.inr (.inl 21)], n, D, s18, p, c0)) rfl ?_
        refine tt_cl (by omega) rfl (g_aim21 (Zi := Zi) (q := q) (n := n) (D := D) (s := s18) (p := p) (c := c0) (by omega) hz (by omega) hK0.1 hS18 hC0 hW19 ) ?_
        rintro _ _ ⟨s93, rfl, rfl, hS93, hW94, f95⟩
        show tt Zi d 32 (92, [some (.inr (.inl 21)), some (.inr (.inl 27)), some (.inl a_), some (.inl y), some (.inl x)], [], n, D, s93, p, c0) _
        have e96 : s93 2700 = (s18 2700) := (f95 2700 (by decide))
        have b97 : 0 ≤ (s93 2700) ∧ (s93 2700) ≤ 64 := hS93 2700
        have e98 : s93 2701 = (s18 2701) := (f95 2701 (by decide))
        have b99 : 0 ≤ (s93 2701) ∧ (s93 2701) ≤ 64 := hS93 2701
        have e100 : s93 2702 = (s18 2702) := (f95 2702 (by decide))
        have b101 : 0 ≤ (s93 2702) ∧ (s93 2702) ≤ 3 := hS93 2702
        have e102 : s93 2106 = (s18 2106) := (f95 2106 (by decide))
        have b103 : 0 ≤ (s93 2106) ∧ (s93 2106) ≤ 64 := hS93 2106
        have e104 : s93 2107 = (s18 2107) := (f95 2107 (by decide))
        have b105 : 0 ≤ (s93 2107) ∧ (s93 2107) ≤ 12288 := hS93 2107
        have e106 : s93 2001 = (s18 2001) := (f95 2001 (by decide))
        have b107 : 0 ≤ (s93 2001) ∧ (s93 2001) ≤ 100000 := hS93 2001
        refine tt_k 2 (S' := (95, [some (.inr (.inl 21)), some (.inr (.inl 27)), some (.inl a_), some (.inl y), some (.inl x)], [.inl x, .inr (.inl 21)], n, D, s93, p, c0)) rfl ?_
        refine tt_cl (by omega) rfl (g_tellSample21 (Zi := Zi) (q := q) (n := n) (D := D) (s := s93) (p := p) (c := c0) (by omega) hz (by omega) hK0.1 hS93 hC0 hW94 x (by omega)) ?_
        rintro _ H1 (⟨s108, c109, rfl, rfl, hS108, hC109, hW110, f111, kf112, k113⟩ | ⟨rfl, hY114⟩)
        rotate_left
        · exact tt_ax rfl (hX12 _ (cX_mono (cX_trx hK0 (fr_wk (show fr s s93 [902, 2001, 2002, 2003, 2004, 2108, 2109, 2110, 2111, 2112, 2113, 2114, 2115, 2116] from (fr_tr (fr_tr hF0 f20 (by decide)) f95 (by decide))) (by decide)) hY114 (by decide)) (by omega)))
        have FK115 : fk p c n p c109 [900, 901, 2103, 2104, 2704] := fk_tr hK0 kf112 (by decide)
        show tt Zi d 32 (98, [some (.inr (.inl 21)), some (.inr (.inl 27)), some (.inl a_), some (.inl y), some (.inl x)], [], n, D, s108, p, c109) _
        replace k113 : (s93 2001) ≤ 32768 → (s108 2001) ≤ 32768 := k113
        have b116 : 0 ≤ (s108 2001) ∧ (s108 2001) ≤ 100000 := hS108 2001
        have e117 : s108 2700 = (s93 2700) := (f111 2700 (by decide))
        have b118 : 0 ≤ (s108 2700) ∧ (s108 2700) ≤ 64 := hS108 2700
        have e119 : s108 2701 = (s93 2701) := (f111 2701 (by decide))
        have b120 : 0 ≤ (s108 2701) ∧ (s108 2701) ≤ 64 := hS108 2701
        have e121 : s108 2702 = (s93 2702) := (f111 2702 (by decide))
        have b122 : 0 ≤ (s108 2702) ∧ (s108 2702) ≤ 3 := hS108 2702
        have e123 : s108 2106 = (s93 2106) := (f111 2106 (by decide))
        have b124 : 0 ≤ (s108 2106) ∧ (s108 2106) ≤ 64 := hS108 2106
        have e125 : s108 2107 = (s93 2107) := (f111 2107 (by decide))
        have b126 : 0 ≤ (s108 2107) ∧ (s108 2107) ≤ 12288 := hS108 2107
        refine tt_k 3 (S' := (66, [some (.inr (.inl 21)), some (.inr (.inl 27)), some (.inl a_), some (.inl y), some (.inl (x + 1))], [], n, D, s108, p, c109)) rfl ?_
        exact ih (x + 1) s108 c109 (by omega) hS108 (fr_tr (fr_tr (fr_tr hF0 f20 (by decide)) f95 (by decide)) f111 (by decide)) hC109 hW110 FK115 (show s 2001 ≤ 32768 → (s108 2001) ≤ 32768 by omega) (show (65 - (x + 1)).toNat < m by omega)

set_option maxRecDepth 100000 in
set_option maxHeartbeats 4000000 in
theorem g_tellPlane21_27_L40 {g : Nat → Int} {Zi : Nat → Option (Nat × (Nat → Int))} {d n q : Nat} {D : Nat → Nat × Nat} {s : Nat → Int} {p : Nat → Nat} {c : Nat → Nat → Int}  {Q : mi_Rs → mi_H → Prop} (hd : 8 ≤ d) (hz : zk Zi) (hq : q + 16 ≤ 400001) (hD : wd n p) (hS : bS s) (hC : bC D c) (hW : wp q g n D p s) (a_ : Int) (b_a_ : 0 ≤ a_ ∧ a_ ≤ 2) (hq0 : s 2700 * s 2701 * s 2702 ≤ (ln D (p 2105) : Int)) (hq1 : s 2106 = s 2700) (hq2 : a_ < s 2702 ∧ 1 ≤ s 2700) (hq3 : p 2105 = p 2704) (hX12 : ∀ H, cX (q + 1) g s p c [900, 901, 2103, 2104, 2704] LXR H → Q (.inr 12) H)
  (hK : ∀ (y : Int) (o_4 : Option mi_V) (s0 : Nat → Int) (p0 : Nat → Nat) (c0 : Nat → Nat → Int) (b_y : 0 ≤ y ∧ y ≤ 64) (hS0 : bS s0) (hF0 : fr s s0 [902, 2001, 2002, 2003, 2004, 2107, 2108, 2109, 2110, 2111, 2112, 2113, 2114, 2115, 2116]) (hC0 : bC D c0) (hW0 : wp q g n D p0 s0) (hP0 : frp p p0 [2103, 2104]) (hK0 : fk p c n p0 c0 [900, 901, 2103, 2104, 2704]) (i0 : y ≤ s 2701) (i1 : s 2001 ≤ 32768 → s0 2001 ≤ 32768), (True) → tt Zi d 32 (149, [some (.inr (.inl 21)), some (.inr (.inl 27)), some (.inl a_), some (.inl y), o_4], [], n, D, s0, p0, c0) Q) :
  ∀ (m : Nat) (y : Int) (o_4 : Option mi_V) (s0 : Nat → Int) (p0 : Nat → Nat) (c0 : Nat → Nat → Int) (b_y : 0 ≤ y ∧ y ≤ 64) (hS0 : bS s0) (hF0 : fr s s0 [902, 2001, 2002, 2003, 2004, 2107, 2108, 2109, 2110, 2111, 2112, 2113, 2114, 2115, 2116]) (hC0 : bC D c0) (hW0 : wp q g n D p0 s0) (hP0 : frp p p0 [2103, 2104]) (hK0 : fk p c n p0 c0 [900, 901, 2103, 2104, 2704]) (i0 : y ≤ s 2701) (i1 : s 2001 ≤ 32768 → s0 2001 ≤ 32768), (s 2701 - y).toNat < m → tt Zi d 32 (40, [some (.inr (.inl 21)), some (.inr (.inl 27)), some (.inl a_), some (.inl y), o_4], [], n, D, s0, p0, c0) Q := by
  intro m
  induction m with
  | zero => intro y o_4 s0 p0 c0 b_y hS0 hF0 hC0 hW0 hP0 hK0 i0 i1 hm; exact absurd hm (by omega)
  | succ m ih =>
    intro y o_4 s0 p0 c0 b_y hS0 hF0 hC0 hW0 hP0 hK0 i0 i1 hm
    have e1 : s0 2700 = s 2700 := hF0 2700 (by decide)
    have b2 : 0 ≤ (s0 2700) ∧ (s0 2700) ≤ 64 := hS0 2700
    have b3 : 0 ≤ (s 2700) ∧ (s 2700) ≤ 64 := hS 2700
    have e4 : s0 2701 = s 2701 := hF0 2701 (by decide)
    have b5 : 0 ≤ (s0 2701) ∧ (s0 2701) ≤ 64 := hS0 2701
    have b6 : 0 ≤ (s 2701) ∧ (s 2701) ≤ 64 := hS 2701
    have e7 : s0 2702 = s 2702 := hF0 2702 (by decide)
    have b8 : 0 ≤ (s0 2702) ∧ (s0 2702) ≤ 3 := hS0 2702
    have b9 : 0 ≤ (s 2702) ∧ (s 2702) ≤ 3 := hS 2702
    have e10 : s0 2106 = s 2106 := hF0 2106 (by decide)
    have b11 : 0 ≤ (s0 2106) ∧ (s0 2106) ≤ 64 := hS0 2106
    have b12 : 0 ≤ (s 2106) ∧ (s 2106) ≤ 64 := hS 2106
    have b13 : ln D (p0 2105) ≤ 12288 := (hW0).s21.2.2
    have el : ln D (p0 2105) = ln D (p 2105) := by rw [hP0 2105 (by decide)]
    refine tt_k 3 (S' := (45, [some (.inr (.inl 21)), some (.inr (.inl 27)), some (.inl a_), some (.inl y), o_4], [.inl (s0 2701), .inl y], n, D, s0, p0, c0)) rfl ?_
    refine tb_ge (x := y) (y := (s0 2701)) rfl rfl (by omega) (fun h14 => ?_) (fun h14 => ?_)
    · show tt Zi d 32 (149, [some (.inr (.inl 21)), some (.inr (.inl 27)), some (.inl a_), some (.inl y), o_4], [], n, D, s0, p0, c0) _
      exact hK y (o_4) s0 p0 c0 (by omega) hS0 hF0 hC0 hW0 hP0 hK0 (show y ≤ s 2701 by omega) (show s 2001 ≤ 32768 → (s0 2001) ≤ 32768 by omega) trivial
    · show tt Zi d 32 (48, [some (.inr (.inl 21)), some (.inr (.inl 27)), some (.inl a_), some (.inl y), o_4], [], n, D, s0, p0, c0) _
      refine tt_k 5 (S' := (53, [some (.inr (.inl 21)), some (.inr (.inl 27)), some (.inl a_), some (.inl y), o_4], [.inl y, .inl 0, .inl a_, .inr (.inl 27), .inr (.inl 21)], n, D, s0, p0, c0)) rfl ?_
      refine tt_cl (by omega) rfl (g_index27 (Zi := Zi) (q := q) (n := n) (D := D) (s := s0) (p := p0) (c := c0) (by omega) hz (by omega) hK0.1 hS0 hC0 hW0 a_ 0 y (by omega) (by omega) (by omega) (show a_ < (s0 2702) ∧ 0 < (s0 2700) ∧ y < (s0 2701) by omega)) ?_
      rintro _ _ ⟨r15, rfl, rfl, b16, k17, k18⟩
      show tt Zi d 32 (56, [some (.inr (.inl 21)), some (.inr (.inl 27)), some (.inl a_), some (.inl y), o_4], [.inl r15, .inr (.inl 21)], n, D, s0, p0, c0) _
      replace k17 : r15 = (a_ * (s0 2701) + y) * (s0 2700) + 0 := k17
      replace k18 : r15 + (s0 2700) - 0 ≤ (s0 2700) * (s0 2701) * (s0 2702) := k18
      have hmm : (s0 2700) * (s0 2701) * (s0 2702) = s 2700 * s 2701 * s 2702 := by rw [show (s0 2700) = s 2700 by omega, show (s0 2701) = s 2701 by omega, show (s0 2702) = s 2702 by omega]
      refine tt_k 2 (S' := (60, [some (.inr (.inl 21)), some (.inr (.inl 27)), some (.inl a_), some (.inl y), o_4], [.inr (.inl 21)], n, D, (us s0 2107 r15), p0, c0)) rfl ?_
      refine tt_cl (by omega) rfl (g_openRow21 (Zi := Zi) (q := q) (n := n) (D := D) (s := (us s0 2107 r15)) (p := p0) (c := c0) (by omega) hz (by omega) hK0.1 (bS_us hS0 (show 0 ≤ r15 ∧ r15 ≤ 12288 by omega)) hC0 (wp_us (by decide) hW0) ) ?_
      rintro _ _ ⟨p19, c20, rfl, rfl, hC20, hW21, g22, kf23⟩
      have FK24 : fk p c n p19 c20 [900, 901, 2103, 2104, 2704] := fk_tr hK0 kf23 (by decide)
      show tt Zi d 32 (63, [some (.inr (.inl 21)), some (.inr (.inl 27)), some (.inl a_), some (.inl y), o_4], [], n, D, (us s0 2107 r15), p19, c20) _
      have e25 : ln D (p19 2105) = ln D (p0 2105) := (congrArg (ln D) (g22 2105 (by decide)))
      refine tt_k 2 (S' := (66, [some (.inr (.inl 21)), some (.inr (.inl 27)), some (.inl a_), some (.inl y), some (.inl 0)], [], n, D, (us s0 2107 r15), p19, c20)) rfl ?_
      refine g_tellPlane21_27_L66 (Zi := Zi) (q := q) (n := n) (D := D) (s := (us s0 2107 r15)) (p := p19) (c := c20) hd hz (by omega) FK24.1 (bS_us hS0 (show 0 ≤ r15 ∧ r15 ≤ 12288 by omega)) hC20 hW21  a_ y (by omega) (by omega) (show r15 + (s0 2106) ≤ (ln D (p19 2105) : Int) by omega) (fun H h => hX12 H (cX_mono (cX_trx FK24 (fr_wk (show fr s (us s0 2107 r15) [902, 2001, 2002, 2003, 2004, 2107, 2108, 2109, 2110, 2111, 2112, 2113, 2114, 2115, 2116] from (fr_us (by decide) hF0)) (by decide)) h (by decide)) (by omega))) ?_ _ 0 (us s0 2107 r15) c20 (by omega) (bS_us hS0 (show 0 ≤ r15 ∧ r15 ≤ 12288 by omega)) fr_rf hC20 hW21 (fk_rf FK24.1) (fun h => h) (Nat.lt_succ_self _)
      intro x26 s27 c28 b29 hS27 f30 hC28 hW31 kf32 i33 hx34
      show tt Zi d 32 (139, [some (.inr (.inl 21)), some (.inr (.inl 27)), some (.inl a_), some (.inl y), some (.inl x26)], [], n, D, s27, p19, c28) _
      have FK35 : fk p c n p19 c28 [900, 901, 2103, 2104, 2704] := fk_tr FK24 kf32 (by decide)
      replace i33 : (s0 2001) ≤ 32768 → (s27 2001) ≤ 32768 := i33
      have b36 : 0 ≤ (s27 2001) ∧ (s27 2001) ≤ 100000 := hS27 2001
      have e37 : s27 2700 = (s0 2700) := (f30 2700 (by decide))
      have b38 : 0 ≤ (s27 2700) ∧ (s27 2700) ≤ 64 := hS27 2700
      have e39 : s27 2701 = (s0 2701) := (f30 2701 (by decide))
      have b40 : 0 ≤ (s27 2701) ∧ (s27 2701) ≤ 64 := hS27 2701
      have e41 : s27 2702 = (s0 2702) := (f30 2702 (by decide))
      have b42 : 0 ≤ (s27 2702) ∧ (s27 2702) ≤ 3 := hS27 2702
      have e43 : s27 2106 = (s0 2106) := (f30 2106 (by decide))
      have b44 : 0 ≤ (s27 2106) ∧ (s27 2106) ≤ 64 := hS27 2106
      have e45 : s27 2107 = r15 := (f30 2107 (by decide))
      have b46 : 0 ≤ (s27 2107) ∧ (s27 2107) ≤ 12288 := hS27 2107
      refine tt_k 1 (S' := (140, [some (.inr (.inl 21)), some (.inr (.inl 27)), some (.inl a_), some (.inl y), some (.inl x26)], [.inr (.inl 21)], n, D, s27, p19, c28)) rfl ?_
      refine tt_cl (by omega) rfl (g_closeRow21_27 (Zi := Zi) (q := q) (n := n) (D := D) (s := s27) (p := p19) (c := c28) (by omega) hz (by omega) FK35.1 hS27 hC28 hW31 (show (s27 2107) + (s27 2106) ≤ (ln D (p19 2105) : Int) by omega) ((((g22 2105 (by decide)).trans (hP0 2105 (by decide)))).trans (hq3.trans (((g22 2704 (by decide)).trans (hP0 2704 (by decide)))).symm))) ?_
      rintro _ _ ⟨c47, rfl, rfl, hC47, kf48⟩
      have FK49 : fk p c n p19 c47 [900, 901, 2103, 2104, 2704] := fk_tr FK35 kf48 (by decide)
      show tt Zi d 32 (143, [some (.inr (.inl 21)), some (.inr (.inl 27)), some (.inl a_), some (.inl y), some (.inl x26)], [], n, D, s27, p19, c47) _
      refine tt_k 2 (S' := (40, [some (.inr (.inl 21)), some (.inr (.inl 27)), some (.inl a_), some (.inl (y + 1)), some (.inl x26)], [], n, D, s27, p19, c47)) rfl ?_
      exact ih (y + 1) (some (.inl x26)) s27 p19 c47 (by omega) hS27 (fr_tr (fr_us (by decide) hF0) f30 (by decide)) hC47 hW31 (frp_tr hP0 g22 (by decide)) FK49 (show (y + 1) ≤ s 2701 by omega) (show s 2001 ≤ 32768 → (s27 2001) ≤ 32768 by omega) (show (s 2701 - (y + 1)).toNat < m by omega)
set_option maxRecDepth 100000 in
set_option maxHeartbeats 4000000 in
theorem g_tellPlane21_27 {g : Nat → Int} {Zi : Nat → Option (Nat × (Nat → Int))} {d n q : Nat} {D : Nat → Nat × Nat} {s : Nat → Int} {p : Nat → Nat} {c : Nat → Nat → Int} (hd : 8 ≤ d) (hz : zk Zi) (hq : q + 16 ≤ 400000) (hD : wd n p) (hS : bS s) (hC : bC D c) (hW : wp q g n D p s) (a_ : Int) (b_a_ : 0 ≤ a_ ∧ a_ ≤ 2) (hp0 : a_ < s 2702 ∧ 1 ≤ s 2700) : tt Zi d 32 (0, [some (.inr (.inl 21)), some (.inr (.inl 27)), some (.inl a_), none, none], [], n, D, s, p, c) (fun R H => (∃ (s' : Nat → Int) (p' : Nat → Nat) (c' : Nat → Nat → Int), R = .inl none ∧ H = (n, D, s', p', c') ∧ bS s' ∧ bC D c' ∧ wp q g n D p' s' ∧ fr s s' [902, 2001, 2002, 2003, 2004, 2106, 2107, 2108, 2109, 2110, 2111, 2112, 2113, 2114, 2115, 2116] ∧ frp p p' [900, 901, 2103, 2104, 2105] ∧ fk p c n p' c' [900, 901, 2103, 2104, 2704] ∧ (s 2001 ≤ 32768 → s' 2001 ≤ 32768)) ∨ (R = .inr 12 ∧ cX ((q + 1)) g s p c [900, 901, 2103, 2104, 2704] LXR H)) := by
  have b1 : 0 ≤ (s 2700) ∧ (s 2700) ≤ 64 := hS 2700
  have b2 : 0 ≤ (s 2701) ∧ (s 2701) ≤ 64 := hS 2701
  have b3 : 0 ≤ (s 2702) ∧ (s 2702) ≤ 3 := hS 2702
  refine tt_k 13 (S' := (27, [some (.inr (.inl 21)), some (.inr (.inl 27)), some (.inl a_), none, none], [.inl (s 807), .inr (.inl 9)], n, D, (us s 2106 (s 2700)), (up p 2105 (p 2704)), c)) rfl ?_
  have b4 : 0 ≤ (s 807) ∧ (s 807) ≤ 65536 := hS 807
  have FK5 : fk p c n (up p 2105 (p 2704)) c [900, 901, 2103, 2104, 2704] := (fk_up (by decide) (fk_rf hD))
  refine tt_cl (by omega) rfl (g_begin (Zi := Zi) (q := q) (n := n) (D := D) (s := (us s 2106 (s 2700))) (p := (up p 2105 (p 2704))) (c := c) (by omega) hz (by omega) FK5.1 (bS_us hS (show 0 ≤ (s 2700) ∧ (s 2700) ≤ 64 by omega)) hC (wp_us (by decide) (wp_sa21_27 hW)) (s 807) (by omega)) ?_
  rintro _ _ ⟨s6, c7, rfl, rfl, hS6, hC7, hW8, f9, kf10⟩
  have FK11 : fk p c n (up p 2105 (p 2704)) c7 [900, 901, 2103, 2104, 2704] := fk_tr FK5 kf10 (by decide)
  show tt Zi d 32 (30, [some (.inr (.inl 21)), some (.inr (.inl 27)), some (.inl a_), none, none], [], n, D, s6, (up p 2105 (p 2704)), c7) _
  have e12 : s6 2700 = (s 2700) := (f9 2700 (by decide))
  have b13 : 0 ≤ (s6 2700) ∧ (s6 2700) ≤ 64 := hS6 2700
  have e14 : s6 2701 = (s 2701) := (f9 2701 (by decide))
  have b15 : 0 ≤ (s6 2701) ∧ (s6 2701) ≤ 64 := hS6 2701
  have e16 : s6 2702 = (s 2702) := (f9 2702 (by decide))
  have b17 : 0 ≤ (s6 2702) ∧ (s6 2702) ≤ 3 := hS6 2702
  have e18 : s6 2106 = (s 2700) := (f9 2106 (by decide))
  have b19 : 0 ≤ (s6 2106) ∧ (s6 2106) ≤ 64 := hS6 2106
  have e20 : s6 2107 = (s 2107) := (f9 2107 (by decide))
  have b21 : 0 ≤ (s6 2107) ∧ (s6 2107) ≤ 12288 := hS6 2107
  have b22 : 0 ≤ (s 2107) ∧ (s 2107) ≤ 12288 := hS 2107
  have e23 : s6 2001 = (s 2001) := (f9 2001 (by decide))
  have b24 : 0 ≤ (s6 2001) ∧ (s6 2001) ≤ 100000 := hS6 2001
  have b25 : 0 ≤ (s 2001) ∧ (s 2001) ≤ 100000 := hS 2001
  refine tt_k 3 (S' := (35, [some (.inr (.inl 21)), some (.inr (.inl 27)), some (.inl a_), none, none], [.inl 0, .inr (.inl (p 2104))], n, D, s6, (up p 2105 (p 2704)), c7)) rfl ?_
  refine tt_cl (by omega) rfl (g_fill (A := (p 2104)) (m := 66) (s := s6) (p := (up p 2105 (p 2704))) ((sw_arr (hW8).a21 rfl rfl).2) (by omega) (by rw [(show bC_lo D (p 2104) = 0 ∧ bC_hi D (p 2104) = 65535 from ((sw_21 (hW8).a21).2)).1, (show bC_lo D (p 2104) = 0 ∧ bC_hi D (p 2104) = 65535 from ((sw_21 (hW8).a21).2)).2]; decide) hC7) ?_
  rintro _ _ ⟨c26, rfl, rfl, hC26, fc26, ec26, zc26⟩
  show tt Zi d 32 (38, [some (.inr (.inl 21)), some (.inr (.inl 27)), some (.inl a_), none, none], [], n, D, s6, (up p 2105 (p 2704)), c26) _
  have FK27 : fk p c n (up p 2105 (p 2704)) c26 [900, 901, 2103, 2104, 2704] := fk_st (k := 2104) FK11 ec26 (by decide) rfl
  refine tt_k 2 (S' := (40, [some (.inr (.inl 21)), some (.inr (.inl 27)), some (.inl a_), some (.inl 0), none], [], n, D, s6, (up p 2105 (p 2704)), c26)) rfl ?_
  refine g_tellPlane21_27_L40 (Zi := Zi) (q := q) (n := n) (D := D) (s := s6) (p := (up p 2105 (p 2704))) (c := c26) hd hz (by omega) FK27.1 hS6 hC26 hW8  a_ (by omega) (show _ from (hW8).w27) (show (s6 2106) = (s6 2700) by omega) (show a_ < (s6 2702) ∧ 1 ≤ (s6 2700) by omega) rfl (fun H h => (Or.inr ⟨rfl, cX_mono (cX_trx FK27 (show fr s s6 LXR from (fr_tr (fr_us (by decide) fr_rf) f9 (by decide))) h (by decide)) (by omega)⟩)) ?_ _ 0 (none) s6 (up p 2105 (p 2704)) c26 (by omega) hS6 fr_rf hC26 hW8 frp_rf (fk_rf FK27.1) (show 0 ≤ (s6 2701) by omega) (fun h => h) (Nat.lt_succ_self _)
  intro x28 x29 s30 p31 c32 b33 hS30 f34 hC32 hW35 g36 kf37 i38 i39 hx40
  show tt Zi d 32 (149, [some (.inr (.inl 21)), some (.inr (.inl 27)), some (.inl a_), some (.inl x28), x29], [], n, D, s30, p31, c32) _
  have FK41 : fk p c n p31 c32 [900, 901, 2103, 2104, 2704] := fk_tr FK27 kf37 (by decide)
  replace i38 : x28 ≤ (s6 2701) := i38
  replace i39 : (s6 2001) ≤ 32768 → (s30 2001) ≤ 32768 := i39
  have b42 : 0 ≤ (s30 2001) ∧ (s30 2001) ≤ 100000 := hS30 2001
  have e43 : s30 2700 = (s6 2700) := (f34 2700 (by decide))
  have b44 : 0 ≤ (s30 2700) ∧ (s30 2700) ≤ 64 := hS30 2700
  have e45 : s30 2701 = (s6 2701) := (f34 2701 (by decide))
  have b46 : 0 ≤ (s30 2701) ∧ (s30 2701) ≤ 64 := hS30 2701
  have e47 : s30 2702 = (s6 2702) := (f34 2702 (by decide))
  have b48 : 0 ≤ (s30 2702) ∧ (s30 2702) ≤ 3 := hS30 2702
  have e49 : s30 2106 = (s6 2106) := (f34 2106 (by decide))
  have b50 : 0 ≤ (s30 2106) ∧ (s30 2106) ≤ 64 := hS30 2106
  have e51 : ln D (p31 2105) = ln D (p 2704) := (congrArg (ln D) (g36 2105 (by decide)))
  refine tt_k 2 (S' := (153, [some (.inr (.inl 21)), some (.inr (.inl 27)), some (.inl a_), some (.inl x28), x29], [.inr (.inl 9)], n, D, s30, p31, c32)) rfl ?_
  refine tt_cl (by omega) rfl (g_keep (Zi := Zi) (q := q) (n := n) (D := D) (s := s30) (p := p31) (c := c32) (by omega) hz (by omega) FK41.1 hS30 hC32 hW35 ) ?_
  rintro _ _ ⟨p52, rfl, rfl, hW53, g54, kf55⟩
  have FK56 : fk p c n p52 c32 [900, 901, 2103, 2104, 2704] := fk_tr FK41 kf55 (by decide)
  show tt Zi d 32 (156, [some (.inr (.inl 21)), some (.inr (.inl 27)), some (.inl a_), some (.inl x28), x29], [], n, D, s30, p52, c32) _
  have e57 : ln D (p52 2105) = ln D (p31 2105) := (congrArg (ln D) (g54 2105 (by decide)))
  exact tt_rtv rfl rfl (Or.inl ⟨s30, p52, c32, rfl, rfl, hS30, hC32, hW53, (fr_tr (fr_tr (fr_us (by decide) fr_rf) f9 (by decide)) f34 (by decide)), (frp_tr (frp_tr (frp_up (by decide) frp_rf) g36 (by decide)) g54 (by decide)), FK56, by show s 2001 ≤ 32768 → (s30 2001) ≤ 32768; omega⟩)
