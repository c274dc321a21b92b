/-! the class's plane -/
set_option maxRecDepth 100000 in
set_option maxHeartbeats 4000000 in
theorem g_tellPlane21_25_L66 {g : Nat → Int} {Zi : Nat → Option (Nat × (Nat → Int))} {d n q : Nat} {D : Nat → Nat × Nat} {s : Nat → Int} {p : Nat → Nat} {c : Nat → Nat → Int}  {Q : mi_Rs → mi_H → Prop} (hd : 8 ≤ d) (hz : zk Zi) (hq : q + 16 ≤ 400001) (hD : wd n p) (hS : bS s) (hC : bC D c) (hW : wp q g n D p s) (a_ : Int) (y : Int) (b_a_ : 0 ≤ a_ ∧ a_ ≤ 2) (b_y : 0 ≤ y ∧ y ≤ 63) (hq0 : s 2107 + s 2106 ≤ (ln D (p 2105) : Int)) (hX12 : ∀ H, cX (q + 1) g s p c [900, 901, 2103, 2104, 2504] LXR H → Q (.inr 12) H)
  (hK : ∀ (x : Int) (s0 : Nat → Int) (c0 : Nat → Nat → Int) (b_x : 0 ≤ x ∧ x ≤ 65) (hS0 : bS s0) (hF0 : fr s s0 [902, 2001, 2002, 2003, 2004, 2108, 2109, 2110, 2111, 2112, 2113, 2114, 2115, 2116]) (hC0 : bC D c0) (hW0 : wp q g n D p s0) (hK0 : fk p c n p c0 [900, 901, 2103, 2104, 2504]) (i0 : s 2001 ≤ 32768 → s0 2001 ≤ 32768), (True) → tt Zi d 32 (139, [some (.inr (.inl 21)), some (.inr (.inl 25)), some (.inl a_), some (.inl y), some (.inl x)], [], n, D, s0, p, c0) Q) :
  ∀ (m : Nat) (x : Int) (s0 : Nat → Int) (c0 : Nat → Nat → Int) (b_x : 0 ≤ x ∧ x ≤ 65) (hS0 : bS s0) (hF0 : fr s s0 [902, 2001, 2002, 2003, 2004, 2108, 2109, 2110, 2111, 2112, 2113, 2114, 2115, 2116]) (hC0 : bC D c0) (hW0 : wp q g n D p s0) (hK0 : fk p c n p c0 [900, 901, 2103, 2104, 2504]) (i0 : s 2001 ≤ 32768 → s0 2001 ≤ 32768), (65 - x).toNat < m → tt Zi d 32 (66, [some (.inr (.inl 21)), some (.inr (.inl 25)), some (.inl a_), some (.inl y), some (.inl x)], [], n, D, s0, p, c0) Q := by
  intro m
  induction m with
  | zero => intro x s0 c0 b_x hS0 hF0 hC0 hW0 hK0 i0 hm; exact absurd hm (by omega)
  | succ m ih =>
    intro x s0 c0 b_x hS0 hF0 hC0 hW0 hK0 i0 hm
    have e1 : s0 2500 = s 2500 := hF0 2500 (by decide)
    have b2 : 0 ≤ (s0 2500) ∧ (s0 2500) ≤ 64 := hS0 2500
    have b3 : 0 ≤ (s 2500) ∧ (s 2500) ≤ 64 := hS 2500
    have e4 : s0 2501 = s 2501 := hF0 2501 (by decide)
    have b5 : 0 ≤ (s0 2501) ∧ (s0 2501) ≤ 64 := hS0 2501
    have b6 : 0 ≤ (s 2501) ∧ (s 2501) ≤ 64 := hS 2501
    have e7 : s0 2502 = s 2502 := hF0 2502 (by decide)
    have b8 : 0 ≤ (s0 2502) ∧ (s0 2502) ≤ 3 := hS0 2502
    have b9 : 0 ≤ (s 2502) ∧ (s 2502) ≤ 3 := hS 2502
    have e10 : s0 2106 = s 2106 := hF0 2106 (by decide)
    have b11 : 0 ≤ (s0 2106) ∧ (s0 2106) ≤ 64 := hS0 2106
    have b12 : 0 ≤ (s 2106) ∧ (s 2106) ≤ 64 := hS 2106
    have e13 : s0 2107 = s 2107 := hF0 2107 (by decide)
    have b14 : 0 ≤ (s0 2107) ∧ (s0 2107) ≤ 12288 := hS0 2107
    have b15 : 0 ≤ (s 2107) ∧ (s 2107) ≤ 12288 := hS 2107
    have b16 : ln D (p 2105) ≤ 12288 := (hW0).s21.2.2
    refine tt_k 3 (S' := (72, [some (.inr (.inl 21)), some (.inr (.inl 25)), some (.inl a_), some (.inl y), some (.inl x)], [.inl (s0 2106), .inl x], n, D, s0, p, c0)) rfl ?_
    refine tb_ge (x := x) (y := (s0 2106)) rfl rfl (by omega) (fun h17 => ?_) (fun h17 => ?_)
    · show tt Zi d 32 (139, [some (.inr (.inl 21)), some (.inr (.inl 25)), some (.inl a_), some (.inl y), some (.inl x)], [], n, D, s0, p, c0) _
      exact hK x s0 c0 (by omega) hS0 hF0 hC0 hW0 hK0 (show s 2001 ≤ 32768 → (s0 2001) ≤ 32768 by omega) trivial
    · show tt Zi d 32 (75, [some (.inr (.inl 21)), some (.inr (.inl 25)), some (.inl a_), some (.inl y), some (.inl x)], [], n, D, s0, p, c0) _
      refine tt_k 2 (S' := (78, [some (.inr (.inl 21)), some (.inr (.inl 25)), some (.inl a_), some (.inl y), some (.inl x)], [.inl x, .inr (.inl 21)], n, D, s0, p, c0)) rfl ?_
      refine tt_cl (by omega) rfl (g_look21 (Zi := Zi) (q := q) (n := n) (D := D) (s := s0) (p := p) (c := c0) (by omega) hz (by omega) hK0.1 hS0 hC0 hW0 x (by omega)) ?_
      rintro _ _ ⟨s18, rfl, rfl, hS18, hW19, f20⟩
      show tt Zi d 32 (81, [some (.inr (.inl 21)), some (.inr (.inl 25)), some (.inl a_), some (.inl y), some (.inl x)], [], n, D, s18, p, c0) _
      have e21 : s18 2500 = (s0 2500) := (f20 2500 (by decide))
      have b22 : 0 ≤ (s18 2500) ∧ (s18 2500) ≤ 64 := hS18 2500
      have e23 : s18 2501 = (s0 2501) := (f20 2501 (by decide))
      have b24 : 0 ≤ (s18 2501) ∧ (s18 2501) ≤ 64 := hS18 2501
      have e25 : s18 2502 = (s0 2502) := (f20 2502 (by decide))
      have b26 : 0 ≤ (s18 2502) ∧ (s18 2502) ≤ 3 := hS18 2502
      have e27 : s18 2106 = (s0 2106) := (f20 2106 (by decide))
      have b28 : 0 ≤ (s18 2106) ∧ (s18 2106) ≤ 64 := hS18 2106
      have e29 : s18 2107 = (s0 2107) := (f20 2107 (by decide))
      have b30 : 0 ≤ (s18 2107) ∧ (s18 2107) ≤ 12288 := hS18 2107
      have e31 : s18 2001 = (s0 2001) := (f20 2001 (by decide))
      have b32 : 0 ≤ (s18 2001) ∧ (s18 2001) ≤ 100000 := hS18 2001
      have b33 : 0 ≤ (s0 2001) ∧ (s0 2001) ≤ 100000 := hS0 2001
      refine tt_k 2 (S' := (85, [some (.inr (.inl 21)), some (.inr (.inl 25)), some (.inl a_), some (.inl y), some (.inl x)], [.inl (s18 2111)], n, D, s18, p, c0)) rfl ?_
      have b34 : 0 ≤ (s18 2111) ∧ (s18 2111) ≤ 366 := hS18 2111
      refine tz_eq (x := (s18 2111)) rfl rfl (by omega) (fun h35 => ?_) (fun h35 => ?_)
      · show tt Zi d 32 (101, [some (.inr (.inl 21)), some (.inr (.inl 25)), some (.inl a_), some (.inl y), some (.inl x)], [], n, D, s18, p, c0) _
        refine tt_k 3 (S' := (106, [some (.inr (.inl 21)), some (.inr (.inl 25)), some (.inl a_), some (.inl y), some (.inl x)], [.inl x, .inr (.inl 21), .inl x], n, D, s18, p, c0)) rfl ?_
        refine tt_cl (by omega) rfl (g_tellRun21 (Zi := Zi) (q := q) (n := n) (D := D) (s := s18) (p := p) (c := c0) (by omega) hz (by omega) hK0.1 hS18 hC0 hW19 x (by omega) (show x < (s18 2106) by omega)) ?_
        rintro _ H1 (⟨s36, c37, r38, rfl, rfl, hS36, hC37, hW39, f40, kf41, b42, k43, k44⟩ | ⟨rfl, hY45⟩)
        rotate_left
        · exact tt_ax rfl (hX12 _ (cX_mono (cX_trx hK0 (fr_wk (show fr s s18 [902, 2001, 2002, 2003, 2004, 2108, 2109, 2110, 2111, 2112, 2113, 2114, 2115, 2116] from (fr_tr hF0 f20 (by decide))) (by decide)) hY45 (by decide)) (by omega)))
        have FK46 : fk p c n p c37 [900, 901, 2103, 2104, 2504] := fk_tr hK0 kf41 (by decide)
        show tt Zi d 32 (109, [some (.inr (.inl 21)), some (.inr (.inl 25)), some (.inl a_), some (.inl y), some (.inl x)], [.inl r38, .inl x], n, D, s36, p, c37) _
        replace k43 : x + r38 ≤ (s18 2106) := k43
        replace k44 : (s18 2001) ≤ 32768 → (s36 2001) ≤ 32768 := k44
        have b47 : 0 ≤ (s36 2001) ∧ (s36 2001) ≤ 100000 := hS36 2001
        have e48 : s36 2500 = (s18 2500) := (f40 2500 (by decide))
        have b49 : 0 ≤ (s36 2500) ∧ (s36 2500) ≤ 64 := hS36 2500
        have e50 : s36 2501 = (s18 2501) := (f40 2501 (by decide))
        have b51 : 0 ≤ (s36 2501) ∧ (s36 2501) ≤ 64 := hS36 2501
        have e52 : s36 2502 = (s18 2502) := (f40 2502 (by decide))
        have b53 : 0 ≤ (s36 2502) ∧ (s36 2502) ≤ 3 := hS36 2502
        have e54 : s36 2106 = (s18 2106) := (f40 2106 (by decide))
        have b55 : 0 ≤ (s36 2106) ∧ (s36 2106) ≤ 64 := hS36 2106
        have e56 : s36 2107 = (s18 2107) := (f40 2107 (by decide))
        have b57 : 0 ≤ (s36 2107) ∧ (s36 2107) ≤ 12288 := hS36 2107
        refine tt_k 5 (S' := (118, [some (.inr (.inl 21)), some (.inr (.inl 25)), some (.inl a_), some (.inl y), some (.inl (x + r38))], [.inl (s36 2106), .inl (x + r38)], n, D, s36, p, c37)) rfl ?_
        refine tb_ge (x := (x + r38)) (y := (s36 2106)) rfl rfl (by omega) (fun h58 => ?_) (fun h58 => ?_)
        · show tt Zi d 32 (133, [some (.inr (.inl 21)), some (.inr (.inl 25)), some (.inl a_), some (.inl y), some (.inl (x + r38))], [], n, D, s36, p, c37) _
          refine tt_k 2 (S' := (66, [some (.inr (.inl 21)), some (.inr (.inl 25)), some (.inl a_), some (.inl y), some (.inl ((x + r38) + 1))], [], n, D, s36, p, c37)) rfl ?_
          exact ih ((x + r38) + 1) s36 c37 (by omega) hS36 (fr_tr (fr_tr hF0 f20 (by decide)) f40 (by decide)) hC37 hW39 FK46 (show s 2001 ≤ 32768 → (s36 2001) ≤ 32768 by omega) (show (65 - ((x + r38) + 1)).toNat < m by omega)
        · show tt Zi d 32 (121, [some (.inr (.inl 21)), some (.inr (.inl 25)), some (.inl a_), some (.inl y), some (.inl (x + r38))], [], n, D, s36, p, c37) _
          refine tt_k 2 (S' := (124, [some (.inr (.inl 21)), some (.inr (.inl 25)), some (.inl a_), some (.inl y), some (.inl (x + r38))], [.inl (x + r38), .inr (.inl 21)], n, D, s36, p, c37)) rfl ?_
          refine tt_cl (by omega) rfl (g_aimStop21 (Zi := Zi) (q := q) (n := n) (D := D) (s := s36) (p := p) (c := c37) (by omega) hz (by omega) FK46.1 hS36 hC37 hW39 (x + r38) (by omega)) ?_
          rintro _ _ ⟨s59, rfl, rfl, hS59, hW60, f61⟩
          show tt Zi d 32 (127, [some (.inr (.inl 21)), some (.inr (.inl 25)), some (.inl a_), some (.inl y), some (.inl (x + r38))], [], n, D, s59, p, c37) _
          have e62 : s59 2500 = (s36 2500) := (f61 2500 (by decide))
          have b63 : 0 ≤ (s59 2500) ∧ (s59 2500) ≤ 64 := hS59 2500
          have e64 : s59 2501 = (s36 2501) := (f61 2501 (by decide))
          have b65 : 0 ≤ (s59 2501) ∧ (s59 2501) ≤ 64 := hS59 2501
          have e66 : s59 2502 = (s36 2502) := (f61 2502 (by decide))
          have b67 : 0 ≤ (s59 2502) ∧ (s59 2502) ≤ 3 := hS59 2502
          have e68 : s59 2106 = (s36 2106) := (f61 2106 (by decide))
          have b69 : 0 ≤ (s59 2106) ∧ (s59 2106) ≤ 64 := hS59 2106
          have e70 : s59 2107 = (s36 2107) := (f61 2107 (by decide))
          have b71 : 0 ≤ (s59 2107) ∧ (s59 2107) ≤ 12288 := hS59 2107
          have e72 : s59 2001 = (s36 2001) := (f61 2001 (by decide))
          have b73 : 0 ≤ (s59 2001) ∧ (s59 2001) ≤ 100000 := hS59 2001
          refine tt_k 2 (S' := (130, [some (.inr (.inl 21)), some (.inr (.inl 25)), some (.inl a_), some (.inl y), some (.inl (x + r38))], [.inl (x + r38), .inr (.inl 21)], n, D, s59, p, c37)) rfl ?_
          refine tt_cl (by omega) rfl (g_tellStop21 (Zi := Zi) (q := q) (n := n) (D := D) (s := s59) (p := p) (c := c37) (by omega) hz (by omega) FK46.1 hS59 hC37 hW60 (x + r38) (by omega)) ?_
          rintro _ H1 (⟨s74, c75, rfl, rfl, hS74, hC75, hW76, f77, kf78, k79⟩ | ⟨rfl, hY80⟩)
          rotate_left
          · exact tt_ax rfl (hX12 _ (cX_mono (cX_trx FK46 (fr_wk (show fr s s59 [902, 2001, 2002, 2003, 2004, 2108, 2109, 2110, 2111, 2112, 2113, 2114, 2115, 2116] from (fr_tr (fr_tr (fr_tr hF0 f20 (by decide)) f40 (by decide)) f61 (by decide))) (by decide)) hY80 (by decide)) (by omega)))
          have FK81 : fk p c n p c75 [900, 901, 2103, 2104, 2504] := fk_tr FK46 kf78 (by decide)
          show tt Zi d 32 (133, [some (.inr (.inl 21)), some (.inr (.inl 25)), some (.inl a_), some (.inl y), some (.inl (x + r38))], [], n, D, s74, p, c75) _
          replace k79 : (s59 2001) ≤ 32768 → (s74 2001) ≤ 32768 := k79
          have b82 : 0 ≤ (s74 2001) ∧ (s74 2001) ≤ 100000 := hS74 2001
          have e83 : s74 2500 = (s59 2500) := (f77 2500 (by decide))
          have b84 : 0 ≤ (s74 2500) ∧ (s74 2500) ≤ 64 := hS74 2500
          have e85 : s74 2501 = (s59 2501) := (f77 2501 (by decide))
          have b86 : 0 ≤ (s74 2501) ∧ (s74 2501) ≤ 64 := hS74 2501
          have e87 : s74 2502 = (s59 2502) := (f77 2502 (by decide))
          have b88 : 0 ≤ (s74 2502) ∧ (s74 2502) ≤ 3 := hS74 2502
          have e89 : s74 2106 = (s59 2106) := (f77 2106 (by decide))
          have b90 : 0 ≤ (s74 2106) ∧ (s74 2106) ≤ 64 := hS74 2106
          have e91 : s74 2107 = (s59 2107) := (f77 2107 (by decide))
          have b92 : 0 ≤ (s74 2107) ∧ (s74 2107) ≤ 12288 := hS74 2107
          refine tt_k 2 (S' := (66, [some (.inr (.inl 21)), some (.inr (.inl 25)), some (.inl a_), some (.inl y), some (.inl ((x + r38) + 1))], [], n, D, s74, p, c75)) rfl ?_
          exact ih ((x + r38) + 1) s74 c75 (by omega) hS74 (fr_tr (fr_tr (fr_tr (fr_tr hF0 f20 (by decide)) f40 (by decide)) f61 (by decide)) f77 (by decide)) hC75 hW76 FK81 (show s 2001 ≤ 32768 → (s74 2001) ≤ 32768 by omega) (show (65 - ((x + r38) + 1)).toNat < m by omega)
      · show tt Zi d 32 (88, [some (.inr (.inl 21)), some (.inr (.inl 25)), some (.inl a_), some (.inl y), some (.inl x)], [], n, D, s18, p, c0) _
        refine tt_k 1 (S' := (89, [some (.inr (.inl 21)), some (.inr (.inl 25)), some (.inl a_), some (.inl y), some (.inl x)], [.inr (.inl 21)], n, D, s18, p, c0)) rfl ?_
        refine tt_cl (by omega) rfl (g_aim21 (Zi := Zi) (q := q) (n := n) (D := D) (s := s18) (p := p) (c := c0) (by omega) hz (by omega) hK0.1 hS18 hC0 hW19 ) ?_
        rintro _ _ ⟨s93, rfl, rfl, hS93, hW94, f95⟩
        show tt Zi d 32 (92, [some (.inr (.inl 21)), some (.inr (.inl 25)), some (.inl a_), some (.inl y), some (.inl x)], [], n, D, s93, p, c0) _
        have e96 : s93 2500 = (s18 2500) := (f95 2500 (by decide))
        have b97 : 0 ≤ (s93 2500) ∧ (s93 2500) ≤ 64 := hS93 2500
        have e98 : s93 2501 = (s18 2501) := (f95 2501 (by decide))
        have b99 : 0 ≤ (s93 2501) ∧ (s93 2501) ≤ 64 := hS93 2501
        have e100 : s93 2502 = (s18 2502) := (f95 2502 (by decide))
        have b101 : 0 ≤ (s93 2502) ∧ (s93 2502) ≤ 3 := hS93 2502
        have e102 : s93 2106 = (s18 2106) := (f95 2106 (by decide))
        have b103 : 0 ≤ (s93 2106) ∧ (s93 2106) ≤ 64 := hS93 2106
        have e104 : s93 2107 = (s18 2107) := (f95 2107 (by decide))
        have b105 : 0 ≤ (s93 2107) ∧ (s93 2107) ≤ 12288 := hS93 2107
        have e106 : s93 2001 = (s18 2001) := (f95 2001 (by decide))
        have b107 : 0 ≤ (s93 2001) ∧ (s93 2001) ≤ 100000 := hS93 2001
        refine tt_k 2 (S' := (95, [some (.inr (.inl 21)), some (.inr (.inl 25)), some (.inl a_), some (.inl y), some (.inl x)], [.inl x, .inr (.inl 21)], n, D, s93, p, c0)) rfl ?_
        refine tt_cl (by omega) rfl (g_tellSample21 (Zi := Zi) (q := q) (n := n) (D := D) (s := s93) (p := p) (c := c0) (by omega) hz (by omega) hK0.1 hS93 hC0 hW94 x (by omega)) ?_
        rintro _ H1 (⟨s108, c109, rfl, rfl, hS108, hC109, hW110, f111, kf112, k113⟩ | ⟨rfl, hY114⟩)
        rotate_left
        · exact tt_ax rfl (hX12 _ (cX_mono (cX_trx hK0 (fr_wk (show fr s s93 [902, 2001, 2002, 2003, 2004, 2108, 2109, 2110, 2111, 2112, 2113, 2114, 2115, 2116] from (fr_tr (fr_tr hF0 f20 (by decide)) f95 (by decide))) (by decide)) hY114 (by decide)) (by omega)))
        have FK115 : fk p c n p c109 [900, 901, 2103, 2104, 2504] := fk_tr hK0 kf112 (by decide)
        show tt Zi d 32 (98, [some (.inr (.inl 21)), some (.inr (.inl 25)), some (.inl a_), some (.inl y), some (.inl x)], [], n, D, s108, p, c109) _
        replace k113 : (s93 2001) ≤ 32768 → (s108 2001) ≤ 32768 := k113
        have b116 : 0 ≤ (s108 2001) ∧ (s108 2001) ≤ 100000 := hS108 2001
        have e117 : s108 2500 = (s93 2500) := (f111 2500 (by decide))
        have b118 : 0 ≤ (s108 2500) ∧ (s108 2500) ≤ 64 := hS108 2500
        have e119 : s108 2501 = (s93 2501) := (f111 2501 (by decide))
        have b120 : 0 ≤ (s108 2501) ∧ (s108 2501) ≤ 64 := hS108 2501
        have e121 : s108 2502 = (s93 2502) := (f111 2502 (by decide))
        have b122 : 0 ≤ (s108 2502) ∧ (s108 2502) ≤ 3 := hS108 2502
        have e123 : s108 2106 = (s93 2106) := (f111 2106 (by decide))
        have b124 : 0 ≤ (s108 2106) ∧ (s108 2106) ≤ 64 := hS108 2106
        have e125 : s108 2107 = (s93 2107) := (f111 2107 (by decide))
        have b126 : 0 ≤ (s108 2107) ∧ (s108 2107) ≤ 12288 := hS108 2107
        refine tt_k 3 (S' := (66, [some (.inr (.inl 21)), some (.inr (.inl 25)), some (.inl a_), some (.inl y), some (.inl (x + 1))], [], n, D, s108, p, c109)) rfl ?_
        exact ih (x + 1) s108 c109 (by omega) hS108 (fr_tr (fr_tr (fr_tr hF0 f20 (by decide)) f95 (by decide)) f111 (by decide)) hC109 hW110 FK115 (show s 2001 ≤ 32768 → (s108 2001) ≤ 32768 by omega) (show (65 - (x + 1)).toNat < m by omega)

set_option maxRecDepth 100000 in
set_option maxHeartbeats 4000000 in
theorem g_tellPlane21_25_L40 {g : Nat → Int} {Zi : Nat → Option (Nat × (Nat → Int))} {d n q : Nat} {D : Nat → Nat × Nat} {s : Nat → Int} {p : Nat → Nat} {c : Nat → Nat → Int}  {Q : mi_Rs → mi_H → Prop} (hd : 8 ≤ d) (hz : zk Zi) (hq : q + 16 ≤ 400001) (hD : wd n p) (hS : bS s) (hC : bC D c) (hW : wp q g n D p s) (a_ : Int) (b_a_ : 0 ≤ a_ ∧ a_ ≤ 2) (hq0 : s 2500 * s 2501 * s 2502 ≤ (ln D (p 2105) : Int)) (hq1 : s 2106 = s 2500) (hq2 : a_ < s 2502 ∧ 1 ≤ s 2500) (hq3 : p 2105 = p 2504) (hX12 : ∀ H, cX (q + 1) g s p c [900, 901, 2103, 2104, 2504] LXR H → Q (.inr 12) H)
  (hK : ∀ (y : Int) (o_4 : Option mi_V) (s0 : Nat → Int) (p0 : Nat → Nat) (c0 : Nat → Nat → Int) (b_y : 0 ≤ y ∧ y ≤ 64) (hS0 : bS s0) (hF0 : fr s s0 [902, 2001, 2002, 2003, 2004, 2107, 2108, 2109, 2110, 2111, 2112, 2113, 2114, 2115, 2116]) (hC0 : bC D c0) (hW0 : wp q g n D p0 s0) (hP0 : frp p p0 [2103, 2104]) (hK0 : fk p c n p0 c0 [900, 901, 2103, 2104, 2504]) (i0 : y ≤ s 2501) (i1 : s 2001 ≤ 32768 → s0 2001 ≤ 32768), (True) → tt Zi d 32 (149, [some (.inr (.inl 21)), some (.inr (.inl 25)), some (.inl a_), some (.inl y), o_4], [], n, D, s0, p0, c0) Q) :
  ∀ (m : Nat) (y : Int) (o_4 : Option mi_V) (s0 : Nat → Int) (p0 : Nat → Nat) (c0 : Nat → Nat → Int) (b_y : 0 ≤ y ∧ y ≤ 64) (hS0 : bS s0) (hF0 : fr s s0 [902, 2001, 2002, 2003, 2004, 2107, 2108, 2109, 2110, 2111, 2112, 2113, 2114, 2115, 2116]) (hC0 : bC D c0) (hW0 : wp q g n D p0 s0) (hP0 : frp p p0 [2103, 2104]) (hK0 : fk p c n p0 c0 [900, 901, 2103, 2104, 2504]) (i0 : y ≤ s 2501) (i1 : s 2001 ≤ 32768 → s0 2001 ≤ 32768), (s 2501 - y).toNat < m → tt Zi d 32 (40, [some (.inr (.inl 21)), some (.inr (.inl 25)), some (.inl a_), some (.inl y), o_4], [], n, D, s0, p0, c0) Q := by
  intro m
  induction m with
  | zero => intro y o_4 s0 p0 c0 b_y hS0 hF0 hC0 hW0 hP0 hK0 i0 i1 hm; exact absurd hm (by omega)
  | succ m ih =>
    intro y o_4 s0 p0 c0 b_y hS0 hF0 hC0 hW0 hP0 hK0 i0 i1 hm
    have e1 : s0 2500 = s 2500 := hF0 2500 (by decide)
    have b2 : 0 ≤ (s0 2500) ∧ (s0 2500) ≤ 64 := hS0 2500
    have b3 : 0 ≤ (s 2500) ∧ (s 2500) ≤ 64 := hS 2500
    have e4 : s0 2501 = s 2501 := hF0 2501 (by decide)
    have b5 : 0 ≤ (s0 2501) ∧ (s0 2501) ≤ 64 := hS0 2501
    have b6 : 0 ≤ (s 2501) ∧ (s 2501) ≤ 64 := hS 2501
    have e7 : s0 2502 = s 2502 := hF0 2502 (by decide)
    have b8 : 0 ≤ (s0 2502) ∧ (s0 2502) ≤ 3 := hS0 2502
    have b9 : 0 ≤ (s 2502) ∧ (s 2502) ≤ 3 := hS 2502
    have e10 : s0 2106 = s 2106 := hF0 2106 (by decide)
    have b11 : 0 ≤ (s0 2106) ∧ (s0 2106) ≤ 64 := hS0 2106
    have b12 : 0 ≤ (s 2106) ∧ (s 2106) ≤ 64 := hS 2106
    have b13 : ln D (p0 2105) ≤ 12288 := (hW0).s21.2.2
    have el : ln D (p0 2105) = ln D (p 2105) := by rw [hP0 2105 (by decide)]
    refine tt_k 3 (S' := (45, [some (.inr (.inl 21)), some (.inr (.inl 25)), some (.inl a_), some (.inl y), o_4], [.inl (s0 2501), .inl y], n, D, s0, p0, c0)) rfl ?_
    refine tb_ge (x := y) (y := (s0 2501)) rfl rfl (by omega) (fun h14 => ?_) (fun h14 => ?_)
    · show tt Zi d 32 (149, [some (.inr (.inl 21)), some (.inr (.inl 25)), some (.inl a_), some (.inl y), o_4], [], n, D, s0, p0, c0) _
      exact hK y (o_4) s0 p0 c0 (by omega) hS0 hF0 hC0 hW0 hP0 hK0 (show y ≤ s 2501 by omega) (show s 2001 ≤ 32768 → (s0 2001) ≤ 32768 by omega) trivial
    · show tt Zi d 32 (48, [some (.inr (.inl 21)), some (.inr (.inl 25)), some (.inl a_), some (.inl y), o_4], [], n, D, s0, p0, c0) _
      refine tt_k 5 (S' := (53, [some (.inr (.inl 21)), some (.inr (.inl 25)), some (.inl a_), some (.inl y), o_4], [.inl y, .inl 0, .inl a_, .inr (.inl 25), .inr (.inl 21)], n, D, s0, p0, c0)) rfl ?_
      refine tt_cl (by omega) rfl (g_index25 (Zi := Zi) (q := q) (n := n) (D := D) (s := s0) (p := p0) (c := c0) (by omega) hz (by omega) hK0.1 hS0 hC0 hW0 a_ 0 y (by omega) (by omega) (by omega) (show a_ < (s0 2502) ∧ 0 < (s0 2500) ∧ y < (s0 2501) by omega)) ?_
      rintro _ _ ⟨r15, rfl, rfl, b16, k17, k18⟩
      show tt Zi d 32 (56, [some (.inr (.inl 21)), some (.inr (.inl 25)), some (.inl a_), some (.inl y), o_4], [.inl r15, .inr (.inl 21)], n, D, s0, p0, c0) _
      replace k17 : r15 = (a_ * (s0 2501) + y) * (s0 2500) + 0 := k17
      replace k18 : r15 + (s0 2500) - 0 ≤ (s0 2500) * (s0 2501) * (s0 2502) := k18
      have hmm : (s0 2500) * (s0 2501) * (s0 2502) = s 2500 * s 2501 * s 2502 := by rw [show (s0 2500) = s 2500 by omega, show (s0 2501) = s 2501 by omega, show (s0 2502) = s 2502 by omega]
      refine tt_k 2 (S' := (60, [some (.inr (.inl 21)), some (.inr (.inl 25)), some (.inl a_), some (.inl y), o_4], [.inr (.inl 21)], n, D, (us s0 2107 r15), p0, c0)) rfl ?_
      refine tt_cl (by omega) rfl (g_openRow21 (Zi := Zi) (q := q) (n := n) (D := D) (s := (us s0 2107 r15)) (p := p0) (c := c0) (by omega) hz (by omega) hK0.1 (bS_us hS0 (show 0 ≤ r15 ∧ r15 ≤ 12288 by omega)) hC0 (wp_us (by decide) hW0) ) ?_
      rintro _ _ ⟨p19, c20, rfl, rfl, hC20, hW21, g22, kf23⟩
      have FK24 : fk p c n p19 c20 [900, 901, 2103, 2104, 2504] := fk_tr hK0 kf23 (by decide)
      show tt Zi d 32 (63, [some (.inr (.inl 21)), some (.inr (.inl 25)), some (.inl a_), some (.inl y), o_4], [], n, D, (us s0 2107 r15), p19, c20) _
      have e25 : ln D (p19 2105) = ln D (p0 2105) := (congrArg (ln D) (g22 2105 (by decide)))
      refine tt_k 2 (S' := (66, [some (.inr (.inl 21)), some (.inr (.inl 25)), some (.inl a_), some (.inl y), some (.inl 0)], [], n, D, (us s0 2107 r15), p19, c20)) rfl ?_
      refine g_tellPlane21_25_L66 (Zi := Zi) (q := q) (n := n) (D := D) (s := (us s0 2107 r15)) (p := p19) (c := c20) hd hz (by omega) FK24.1 (bS_us hS0 (show 0 ≤ r15 ∧ r15 ≤ 12288 by omega)) hC20 hW21  a_ y (by omega) (by omega) (show r15 + (s0 2106) ≤ (ln D (p19 2105) : Int) by omega) (fun H h => hX12 H (cX_mono (cX_trx FK24 (fr_wk (show fr s (us s0 2107 r15) [902, 2001, 2002, 2003, 2004, 2107, 2108, 2109, 2110, 2111, 2112, 2113, 2114, 2115, 2116] from (fr_us (by decide) hF0)) (by decide)) h (by decide)) (by omega))) ?_ _ 0 (us s0 2107 r15) c20 (by omega) (bS_us hS0 (show 0 ≤ r15 ∧ r15 ≤ 12288 by omega)) fr_rf hC20 hW21 (fk_rf FK24.1) (fun h => h) (Nat.lt_succ_self _)
      intro x26 s27 c28 b29 hS27 f30 hC28 hW31 kf32 i33 hx34
      show tt Zi d 32 (139, [some (.inr (.inl 21)), some (.inr (.inl 25)), some (.inl a_), some (.inl y), some (.inl x26)], [], n, D, s27, p19, c28) _
      have FK35 : fk p c n p19 c28 [900, 901, 2103, 2104, 2504] := fk_tr FK24 kf32 (by decide)
      replace i33 : (s0 2001) ≤ 32768 → (s27 2001) ≤ 32768 := i33
      have b36 : 0 ≤ (s27 2001) ∧ (s27 2001) ≤ 100000 := hS27 2001
      have e37 : s27 2500 = (s0 2500) := (f30 2500 (by decide))
      have b38 : 0 ≤ (s27 2500) ∧ (s27 2500) ≤ 64 := hS27 2500
      have e39 : s27 2501 = (s0 2501) := (f30 2501 (by decide))
      have b40 : 0 ≤ (s27 2501) ∧ (s27 2501) ≤ 64 := hS27 2501
      have e41 : s27 2502 = (s0 2502) := (f30 2502 (by decide))
      have b42 : 0 ≤ (s27 2502) ∧ (s27 2502) ≤ 3 := hS27 2502
      have e43 : s27 2106 = (s0 2106) := (f30 2106 (by decide))
      have b44 : 0 ≤ (s27 2106) ∧ (s27 2106) ≤ 64 := hS27 2106
      have e45 : s27 2107 = r15 := (f30 2107 (by decide))
      have b46 : 0 ≤ (s27 2107) ∧ (s27 2107) ≤ 12288 := hS27 2107
      refine tt_k 1 (S' := (140, [some (.inr (.inl 21)), some (.inr (.inl 25)), some (.inl a_), some (.inl y), some (.inl x26)], [.inr (.inl 21)], n, D, s27, p19, c28)) rfl ?_
      refine tt_cl (by omega) rfl (g_closeRow21_25 (Zi := Zi) (q := q) (n := n) (D := D) (s := s27) (p := p19) (c := c28) (by omega) hz (by omega) FK35.1 hS27 hC28 hW31 (show (s27 2107) + (s27 2106) ≤ (ln D (p19 2105) : Int) by omega) ((((g22 2105 (by decide)).trans (hP0 2105 (by decide)))).trans (hq3.trans (((g22 2504 (by decide)).trans (hP0 2504 (by decide)))).symm))) ?_
      rintro _ _ ⟨c47, rfl, rfl, hC47, kf48⟩
      have FK49 : fk p c n p19 c47 [900, 901, 2103, 2104, 2504] := fk_tr FK35 kf48 (by decide)
      show tt Zi d 32 (143, [some (.inr (.inl 21)), some (.inr (.inl 25)), some (.inl a_), some (.inl y), some (.inl x26)], [], n, D, s27, p19, c47) _
      refine tt_k 2 (S' := (40, [some (.inr (.inl 21)), some (.inr (.inl 25)), some (.inl a_), some (.inl (y + 1)), some (.inl x26)], [], n, D, s27, p19, c47)) rfl ?_
      exact ih (y + 1) (some (.inl x26)) s27 p19 c47 (by omega) hS27 (fr_tr (fr_us (by decide) hF0) f30 (by decide)) hC47 hW31 (frp_tr hP0 g22 (by decide)) FK49 (show (y + 1) ≤ s 2501 by omega) (show s 2001 ≤ 32768 → (s27 2001) ≤ 32768 by omega) (show (s 2501 - (y + 1)).toNat < m by omega)
set_option maxRecDepth 100000 in
set_option maxHeartbeats 4000000 in
theorem g_tellPlane21_25 {g : Nat → Int} {Zi : Nat → Option (Nat × (Nat → Int))} {d n q : Nat} {D : Nat → Nat × Nat} {s : Nat → Int} {p : Nat → Nat} {c : Nat → Nat → Int} (hd : 8 ≤ d) (hz : zk Zi) (hq : q + 16 ≤ 400000) (hD : wd n p) (hS : bS s) (hC : bC D c) (hW : wp q g n D p s) (a_ : Int) (b_a_ : 0 ≤ a_ ∧ a_ ≤ 2) (hp0 : a_ < s 2502 ∧ 1 ≤ s 2500) : tt Zi d 32 (0, [some (.inr (.inl 21)), some (.inr (.inl 25)), some (.inl a_), none, none], [], n, D, s, p, c) (fun R H => (∃ (s' : Nat → Int) (p' : Nat → Nat) (c' : Nat → Nat → Int), R = .inl none ∧ H = (n, D, s', p', c') ∧ bS s' ∧ bC D c' ∧ wp q g n D p' s' ∧ fr s s' [902, 2001, 2002, 2003, 2004, 2106, 2107, 2108, 2109, 2110, 2111, 2112, 2113, 2114, 2115, 2116] ∧ frp p p' [900, 901, 2103, 2104, 2105] ∧ fk p c n p' c' [900, 901, 2103, 2104, 2504] ∧ (s 2001 ≤ 32768 → s' 2001 ≤ 32768)) ∨ (R = .inr 12 ∧ cX ((q + 1)) g s p c [900, 901, 2103, 2104, 2504] LXR H)) := by
  have b1 : 0 ≤ (s 2500) ∧ (s 2500) ≤ 64 := hS 2500
  have b2 : 0 ≤ (s 2501) ∧ (s 2501) ≤ 64 := hS 2501
  have b3 : 0 ≤ (s 2502) ∧ (s 2502) ≤ 3 := hS 2502
  refine tt_k 13 (S' := (27, [some (.inr (.inl 21)), some (.inr (.inl 25)), some (.inl a_), none, none], [.inl (s 807), .inr (.inl 9)], n, D, (us s 2106 (s 2500)), (up p 2105 (p 2504)), c)) rfl ?_
  have b4 : 0 ≤ (s 807) ∧ (s 807) ≤ 65536 := hS 807
  have FK5 : fk p c n (up p 2105 (p 2504)) c [900, 901, 2103, 2104, 2504] := (fk_up (by decide) (fk_rf hD))
  refine tt_cl (by omega) rfl (g_begin (Zi := Zi) (q := q) (n := n) (D := D) (s := (us s 2106 (s 2500))) (p := (up p 2105 (p 2504))) (c := c) (by omega) hz (by omega) FK5.1 (bS_us hS (show 0 ≤ (s 2500) ∧ (s 2500) ≤ 64 by omega)) hC (wp_us (by decide) (wp_sa21_25 hW)) (s 807) (by omega)) ?_
  rintro _ _ ⟨s6, c7, rfl, rfl, hS6, hC7, hW8, f9, kf10⟩
  have FK11 : fk p c n (up p 2105 (p 2504)) c7 [900, 901, 2103, 2104, 2504] := fk_tr FK5 kf10 (by decide)
  show tt Zi d 32 (30, [some (.inr (.inl 21)), some (.inr (.inl 25)), some (.inl a_), none, none], [], n, D, s6, (up p 2105 (p 2504)), c7) _
  have e12 : s6 2500 = (s 2500) := (f9 2500 (by decide))
  have b13 : 0 ≤ (s6 2500) ∧ (s6 2500) ≤ 64 := hS6 2500
  have e14 : s6 2501 = (s 2501) := (f9 2501 (by decide))
  have b15 : 0 ≤ (s6 2501) ∧ (s6 2501) ≤ 64 := hS6 2501
  have e16 : s6 2502 = (s 2502) := (f9 2502 (by decide))
  have b17 : 0 ≤ (s6 2502) ∧ (s6 2502) ≤ 3 := hS6 2502
  have e18 : s6 2106 = (s 2500) := (f9 2106 (by decide))
  have b19 : 0 ≤ (s6 2106) ∧ (s6 2106) ≤ 64 := hS6 2106
  have e20 : s6 2107 = (s 2107) := (f9 2107 (by decide))
  have b21 : 0 ≤ (s6 2107) ∧ (s6 2107) ≤ 12288 := hS6 2107
  have b22 : 0 ≤ (s 2107) ∧ (s 2107) ≤ 12288 := hS 2107
  have e23 : s6 2001 = (s 2001) := (f9 2001 (by decide))
  have b24 : 0 ≤ (s6 2001) ∧ (s6 2001) ≤ 100000 := hS6 2001
  have b25 : 0 ≤ (s 2001) ∧ (s 2001) ≤ 100000 := hS 2001
  refine tt_k 3 (S' := (35, [some (.inr (.inl 21)), some (.inr (.inl 25)), some (.inl a_), none, none], [.inl 0, .inr (.inl (p 2104))], n, D, s6, (up p 2105 (p 2504)), c7)) rfl ?_
  refine tt_cl (by omega) rfl (g_fill (A := (p 2104)) (m := 66) (s := s6) (p := (up p 2105 (p 2504))) ((sw_arr (hW8).a21 rfl rfl).2) (by omega) (by rw [(show bC_lo D (p 2104) = 0 ∧ bC_hi D (p 2104) = 65535 from ((sw_21 (hW8).a21).2)).1, (show bC_lo D (p 2104) = 0 ∧ bC_hi D (p 2104) = 65535 from ((sw_21 (hW8).a21).2)).2]; decide) hC7) ?_
  rintro _ _ ⟨c26, rfl, rfl, hC26, fc26, ec26, zc26⟩
  show tt Zi d 32 (38, [some (.inr (.inl 21)), some (.inr (.inl 25)), some (.inl a_), none, none], [], n, D, s6, (up p 2105 (p 2504)), c26) _
  have FK27 : fk p c n (up p 2105 (p 2504)) c26 [900, 901, 2103, 2104, 2504] := fk_st (k := 2104) FK11 ec26 (by decide) rfl
  refine tt_k 2 (S' := (40, [some (.inr (.inl 21)), some (.inr (.inl 25)), some (.inl a_), some (.inl 0), none], [], n, D, s6, (up p 2105 (p 2504)), c26)) rfl ?_
  refine g_tellPlane21_25_L40 (Zi := Zi) (q := q) (n := n) (D := D) (s := s6) (p := (up p 2105 (p 2504))) (c := c26) hd hz (by omega) FK27.1 hS6 hC26 hW8  a_ (by omega) (show _ from (hW8).w25) (show (s6 2106) = (s6 2500) by omega) (show a_ < (s6 2502) ∧ 1 ≤ (s6 2500) by omega) rfl (fun H h => (Or.inr ⟨rfl, cX_mono (cX_trx FK27 (show fr s s6 LXR from (fr_tr (fr_us (by decide) fr_rf) f9 (by decide))) h (by decide)) (by omega)⟩)) ?_ _ 0 (none) s6 (up p 2105 (p 2504)) c26 (by omega) hS6 fr_rf hC26 hW8 frp_rf (fk_rf FK27.1) (show 0 ≤ (s6 2501) by omega) (fun h => h) (Nat.lt_succ_self _)
  intro x28 x29 s30 p31 c32 b33 hS30 f34 hC32 hW35 g36 kf37 i38 i39 hx40
  show tt Zi d 32 (149, [some (.inr (.inl 21)), some (.inr (.inl 25)), some (.inl a_), some (.inl x28), x29], [], n, D, s30, p31, c32) _
  have FK41 : fk p c n p31 c32 [900, 901, 2103, 2104, 2504] := fk_tr FK27 kf37 (by decide)
  replace i38 : x28 ≤ (s6 2501) := i38
  replace i39 : (s6 2001) ≤ 32768 → (s30 2001) ≤ 32768 := i39
  have b42 : 0 ≤ (s30 2001) ∧ (s30 2001) ≤ 100000 := hS30 2001
  have e43 : s30 2500 = (s6 2500) := (f34 2500 (by decide))
  have b44 : 0 ≤ (s30 2500) ∧ (s30 2500) ≤ 64 := hS30 2500
  have e45 : s30 2501 = (s6 2501) := (f34 2501 (by decide))
  have b46 : 0 ≤ (s30 2501) ∧ (s30 2501) ≤ 64 := hS30 2501
  have e47 : s30 2502 = (s6 2502) := (f34 2502 (by decide))
  have b48 : 0 ≤ (s30 2502) ∧ (s30 2502) ≤ 3 := hS30 2502
  have e49 : s30 2106 = (s6 2106) := (f34 2106 (by decide))
  have b50 : 0 ≤ (s30 2106) ∧ (s30 2106) ≤ 64 := hS30 2106
  have e51 : ln D (p31 2105) = ln D (p 2504) := (congrArg (ln D) (g36 2105 (by decide)))
  refine tt_k 2 (S' := (153, [some (.inr (.inl 21)), some (.inr (.inl 25)), some (.inl a_), some (.inl x28), x29], [.inr (.inl 9)], n, D, s30, p31, c32)) rfl ?_
  refine tt_cl (by omega) rfl (g_keep (Zi := Zi) (q := q) (n := n) (D := D) (s := s30) (p := p31) (c := c32) (by omega) hz (by omega) FK41.1 hS30 hC32 hW35 ) ?_
  rintro _ _ ⟨p52, rfl, rfl, hW53, g54, kf55⟩
  have FK56 : fk p c n p52 c32 [900, 901, 2103, 2104, 2504] := fk_tr FK41 kf55 (by decide)
  show tt Zi d 32 (156, [some (.inr (.inl 21)), some (.inr (.inl 25)), some (.inl a_), some (.inl x28), x29], [], n, D, s30, p52, c32) _
  have e57 : ln D (p52 2105) = ln D (p31 2105) := (congrArg (ln D) (g54 2105 (by decide)))
  exact tt_rtv rfl rfl (Or.inl ⟨s30, p52, c32, rfl, rfl, hS30, hC32, hW53, (fr_tr (fr_tr (fr_us (by decide) fr_rf) f9 (by decide)) f34 (by decide)), (frp_tr (frp_tr (frp_up (by decide) frp_rf) g36 (by decide)) g54 (by decide)), FK56, by show s 2001 ≤ 32768 → (s30 2001) ≤ 32768; omega⟩)
set_option maxRecDepth 100000 in
set_option maxHeartbeats 4000000 in
theorem g_tellPlane21_27_L66 {g : Nat → Int} {Zi : Nat → Option (Nat × (Nat → Int))} {d n q : Nat} {D : Nat → Nat × Nat} {s : Nat → Int} {p : Nat → Nat} {c : Nat → Nat → Int}  {Q : mi_Rs → mi_H → Prop} (hd : 8 ≤ d) (hz : zk Zi) (hq : q + 16 ≤ 400001) (hD : wd n p) (hS : bS s) (hC : bC D c) (hW : wp q g n D p s) (a_ : Int) (y : Int) (b_a_ : 0 ≤ a_ ∧ a_ ≤ 2) (b_y : 0 ≤ y ∧ y ≤ 63) (hq0 : s 2107 + s 2106 ≤ (ln D (p 2105) : Int)) (hX12 : ∀ H, cX (q + 1) g s p c [900, 901, 2103, 2104, 2704] LXR H → Q (.inr 12) H)
  (hK : ∀ (x : Int) (s0 : Nat → Int) (c0 : Nat → Nat → Int) (b_x : 0 ≤ x ∧ x ≤ 65) (hS0 : bS s0) (hF0 : fr s s0 [902, 2001, 2002, 2003, 2004, 2108, 2109, 2110, 2111, 2112, 2113, 2114, 2115, 2116]) (hC0 : bC D c0) (hW0 : wp q g n D p s0) (hK0 : fk p c n p c0 [900, 901, 2103, 2104, 2704]) (i0 : s 2001 ≤ 32768 → s0 2001 ≤ 32768), (True) → tt Zi d 32 (139, [some (.inr (.inl 21)), some (.inr (.inl 27)), some (.inl a_), some (.inl y), some (.inl x)], [], n, D, s0, p, c0) Q) :
  ∀ (m : Nat) (x : Int) (s0 : Nat → Int) (c0 : Nat → Nat → Int) (b_x : 0 ≤ x ∧ x ≤ 65) (hS0 : bS s0) (hF0 : fr s s0 [902, 2001, 2002, 2003, 2004, 2108, 2109, 2110, 2111, 2112, 2113, 2114, 2115, 2116]) (hC0 : bC D c0) (hW0 : wp q g n D p s0) (hK0 : fk p c n p c0 [900, 901, 2103, 2104, 2704]) (i0 : s 2001 ≤ 32768 → s0 2001 ≤ 32768), (65 - x).toNat < m → tt Zi d 32 (66, [some (.inr (.inl 21)), some (.inr (.inl 27)), some (.inl a_), some (.inl y), some (.inl x)], [], n, D, s0, p, c0) Q := by
  intro m
  induction m with
  | zero => intro x s0 c0 b_x hS0 hF0 hC0 hW0 hK0 i0 hm; exact absurd hm (by omega)
  | succ m ih =>
    intro x s0 c0 b_x hS0 hF0 hC0 hW0 hK0 i0 hm
    have e1 : s0 2700 = s 2700 := hF0 2700 (by decide)
    have b2 : 0 ≤ (s0 2700) ∧ (s0 2700) ≤ 64 := hS0 2700
    have b3 : 0 ≤ (s 2700) ∧ (s 2700) ≤ 64 := hS 2700
    have e4 : s0 2701 = s 2701 := hF0 2701 (by decide)
    have b5 : 0 ≤ (s0 2701) ∧ (s0 2701) ≤ 64 := hS0 2701
    have b6 : 0 ≤ (s 2701) ∧ (s 2701) ≤ 64 := hS 2701
    have e7 : s0 2702 = s 2702 := hF0 2702 (by decide)
    have b8 : 0 ≤ (s0 2702) ∧ (s0 2702) ≤ 3 := hS0 2702
    have b9 : 0 ≤ (s 2702) ∧ (s 2702) ≤ 3 := hS 2702
    have e10 : s0 2106 = s 2106 := hF0 2106 (by decide)
    have b11 : 0 ≤ (s0 2106) ∧ (s0 2106) ≤ 64 := hS0 2106
    have b12 : 0 ≤ (s 2106) ∧ (s 2106) ≤ 64 := hS 2106
    have e13 : s0 2107 = s 2107 := hF0 2107 (by decide)
    have b14 : 0 ≤ (s0 2107) ∧ (s0 2107) ≤ 12288 := hS0 2107
    have b15 : 0 ≤ (s 2107) ∧ (s 2107) ≤ 12288 := hS 2107
    have b16 : ln D (p 2105) ≤ 12288 := (hW0).s21.2.2
    refine tt_k 3 (S' := (72, [some (.inr (.inl 21)), some (.inr (.inl 27)), some (.inl a_), some (.inl y), some (.inl x)], [.inl (s0 2106), .inl x], n, D, s0, p, c0)) rfl ?_
    refine tb_ge (x := x) (y := (s0 2106)) rfl rfl (by omega) (fun h17 => ?_) (fun h17 => ?_)
    · show tt Zi d 32 (139, [some (.inr (.inl 21)), some (.inr (.inl 27)), some (.inl a_), some (.inl y), some (.inl x)], [], n, D, s0, p, c0) _
      exact hK x s0 c0 (by omega) hS0 hF0 hC0 hW0 hK0 (show s 2001 ≤ 32768 → (s0 2001) ≤ 32768 by omega) trivial
    · show tt Zi d 32 (75, [some (.inr (.inl 21)), some (.inr (.inl 27)), some (.inl a_), some (.inl y), some (.inl x)], [], n, D, s0, p, c0) _
      refine tt_k 2 (S' := (78, [some (.inr (.inl 21)), some (.inr (.inl 27)), some (.inl a_), some (.inl y), some (.inl x)], [.inl x, .inr (.inl 21)], n, D, s0, p, c0)) rfl ?_
      refine tt_cl (by omega) rfl (g_look21 (Zi := Zi) (q := q) (n := n) (D := D) (s := s0) (p := p) (c := c0) (by omega) hz (by omega) hK0.1 hS0 hC0 hW0 x (by omega)) ?_
      rintro _ _ ⟨s18, rfl, rfl, hS18, hW19, f20⟩
      show tt Zi d 32 (81, [some (.inr (.inl 21)), some (.inr (.inl 27)), some (.inl a_), some (.inl y), some (.inl x)], [], n, D, s18, p, c0) _
      have e21 : s18 2700 = (s0 2700) := (f20 2700 (by decide))
      have b22 : 0 ≤ (s18 2700) ∧ (s18 2700) ≤ 64 := hS18 2700
      have e23 : s18 2701 = (s0 2701) := (f20 2701 (by decide))
      have b24 : 0 ≤ (s18 2701) ∧ (s18 2701) ≤ 64 := hS18 2701
      have e25 : s18 2702 = (s0 2702) := (f20 2702 (by decide))
      have b26 : 0 ≤ (s18 2702) ∧ (s18 2702) ≤ 3 := hS18 2702
      have e27 : s18 2106 = (s0 2106) := (f20 2106 (by decide))
      have b28 : 0 ≤ (s18 2106) ∧ (s18 2106) ≤ 64 := hS18 2106
      have e29 : s18 2107 = (s0 2107) := (f20 2107 (by decide))
      have b30 : 0 ≤ (s18 2107) ∧ (s18 2107) ≤ 12288 := hS18 2107
      have e31 : s18 2001 = (s0 2001) := (f20 2001 (by decide))
      have b32 : 0 ≤ (s18 2001) ∧ (s18 2001) ≤ 100000 := hS18 2001
      have b33 : 0 ≤ (s0 2001) ∧ (s0 2001) ≤ 100000 := hS0 2001
      refine tt_k 2 (S' := (85, [some (.inr (.inl 21)), some (.inr (.inl 27)), some (.inl a_), some (.inl y), some (.inl x)], [.inl (s18 2111)], n, D, s18, p, c0)) rfl ?_
      have b34 : 0 ≤ (s18 2111) ∧ (s18 2111) ≤ 366 := hS18 2111
      refine tz_eq (x := (s18 2111)) rfl rfl (by omega) (fun h35 => ?_) (fun h35 => ?_)
      · show tt Zi d 32 (101, [some (.inr (.inl 21)), some (.inr (.inl 27)), some (.inl a_), some (.inl y), some (.inl x)], [], n, D, s18, p, c0) _
        refine tt_k 3 (S' := (106, [some (.inr (.inl 21)), some (.inr (.inl 27)), some (.inl a_), some (.inl y), some (.inl x)], [.inl x, .inr (.inl 21), .inl x], n, D, s18, p, c0)) rfl ?_
        refine tt_cl (by omega) rfl (g_tellRun21 (Zi := Zi) (q := q) (n := n) (D := D) (s := s18) (p := p) (c := c0) (by omega) hz (by omega) hK0.1 hS18 hC0 hW19 x (by omega) (show x < (s18 2106) by omega)) ?_
        rintro _ H1 (⟨s36, c37, r38, rfl, rfl, hS36, hC37, hW39, f40, kf41, b42, k43, k44⟩ | ⟨rfl, hY45⟩)
        rotate_left
        · exact tt_ax rfl (hX12 _ (cX_mono (cX_trx hK0 (fr_wk (show fr s s18 [902, 2001, 2002, 2003, 2004, 2108, 2109, 2110, 2111, 2112, 2113, 2114, 2115, 2116] from (fr_tr hF0 f20 (by decide))) (by decide)) hY45 (by decide)) (by omega)))
        have FK46 : fk p c n p c37 [900, 901, 2103, 2104, 2704] := fk_tr hK0 kf41 (by decide)
        show tt Zi d 32 (109, [some (.inr (.inl 21)), some (.inr (.inl 27)), some (.inl a_), some (.inl y), some (.inl x)], [.inl r38, .inl x], n, D, s36, p, c37) _
        replace k43 : x + r38 ≤ (s18 2106) := k43
        replace k44 : (s18 2001) ≤ 32768 → (s36 2001) ≤ 32768 := k44
        have b47 : 0 ≤ (s36 2001) ∧ (s36 2001) ≤ 100000 := hS36 2001
        have e48 : s36 2700 = (s18 2700) := (f40 2700 (by decide))
        have b49 : 0 ≤ (s36 2700) ∧ (s36 2700) ≤ 64 := hS36 2700
        have e50 : s36 2701 = (s18 2701) := (f40 2701 (by decide))
        have b51 : 0 ≤ (s36 2701) ∧ (s36 2701) ≤ 64 := hS36 2701
        have e52 : s36 2702 = (s18 2702) := (f40 2702 (by decide))
        have b53 : 0 ≤ (s36 2702) ∧ (s36 2702) ≤ 3 := hS36 2702
        have e54 : s36 2106 = (s18 2106) := (f40 2106 (by decide))
        have b55 : 0 ≤ (s36 2106) ∧ (s36 2106) ≤ 64 := hS36 2106
        have e56 : s36 2107 = (s18 2107) := (f40 2107 (by decide))
        have b57 : 0 ≤ (s36 2107) ∧ (s36 2107) ≤ 12288 := hS36 2107
        refine tt_k 5 (S' := (118, [some (.inr (.inl 21)), some (.inr (.inl 27)), some (.inl a_), some (.inl y), some (.inl (x + r38))], [.inl (s36 2106), .inl (x + r38)], n, D, s36, p, c37)) rfl ?_
        refine tb_ge (x := (x + r38)) (y := (s36 2106)) rfl rfl (by omega) (fun h58 => ?_) (fun h58 => ?_)
        · show tt Zi d 32 (133, [some (.inr (.inl 21)), some (.inr (.inl 27)), some (.inl a_), some (.inl y), some (.inl (x + r38))], [], n, D, s36, p, c37) _
          refine tt_k 2 (S' := (66, [some (.inr (.inl 21)), some (.inr (.inl 27)), some (.inl a_), some (.inl y), some (.inl ((x + r38) + 1))], [], n, D, s36, p, c37)) rfl ?_
          exact ih ((x + r38) + 1) s36 c37 (by omega) hS36 (fr_tr (fr_tr hF0 f20 (by decide)) f40 (by decide)) hC37 hW39 FK46 (show s 2001 ≤ 32768 → (s36 2001) ≤ 32768 by omega) (show (65 - ((x + r38) + 1)).toNat < m by omega)
        · show tt Zi d 32 (121, [some (.inr (.inl 21)), some (.inr (.inl 27)), some (.inl a_), some (.inl y), some (.inl (x + r38))], [], n, D, s36, p, c37) _
          refine tt_k 2 (S' := (124, [some (.inr (.inl 21)), some (.inr (.inl 27)), some (.inl a_), some (.inl y), some (.inl (x + r38))], [.inl (x + r38), .inr (.inl 21)], n, D, s36, p, c37)) rfl ?_
          refine tt_cl (by omega) rfl (g_aimStop21 (Zi := Zi) (q := q) (n := n) (D := D) (s := s36) (p := p) (c := c37) (by omega) hz (by omega) FK46.1 hS36 hC37 hW39 (x + r38) (by omega)) ?_
          rintro _ _ ⟨s59, rfl, rfl, hS59, hW60, f61⟩
          show tt Zi d 32 (127, [some (.inr (.inl 21)), some (.inr (.inl 27)), some (.inl a_), some (.inl y), some (.inl (x + r38))], [], n, D, s59, p, c37) _
          have e62 : s59 2700 = (s36 2700) := (f61 2700 (by decide))
          have b63 : 0 ≤ (s59 2700) ∧ (s59 2700) ≤ 64 := hS59 2700
          have e64 : s59 2701 = (s36 2701) := (f61 2701 (by decide))
          have b65 : 0 ≤ (s59 2701) ∧ (s59 2701) ≤ 64 := hS59 2701
          have e66 : s59 2702 = (s36 2702) := (f61 2702 (by decide))
          have b67 : 0 ≤ (s59 2702) ∧ (s59 2702) ≤ 3 := hS59 2702
          have e68 : s59 2106 = (s36 2106) := (f61 2106 (by decide))
          have b69 : 0 ≤ (s59 2106) ∧ (s59 2106) ≤ 64 := hS59 2106
          have e70 : s59 2107 = (s36 2107) := (f61 2107 (by decide))
          have b71 : 0 ≤ (s59 2107) ∧ (s59 2107) ≤ 12288 := hS59 2107
          have e72 : s59 2001 = (s36 2001) := (f61 2001 (by decide))
          have b73 : 0 ≤ (s59 2001) ∧ (s59 2001) ≤ 100000 := hS59 2001
          refine tt_k 2 (S' := (130, [some (.inr (.inl 21)), some (.inr (.inl 27)), some (.inl a_), some (.inl y), some (.inl (x + r38))], [.inl (x + r38), .inr (.inl 21)], n, D, s59, p, c37)) rfl ?_
          refine tt_cl (by omega) rfl (g_tellStop21 (Zi := Zi) (q := q) (n := n) (D := D) (s := s59) (p := p) (c := c37) (by omega) hz (by omega) FK46.1 hS59 hC37 hW60 (x + r38) (by omega)) ?_
          rintro _ H1 (⟨s74, c75, rfl, rfl, hS74, hC75, hW76, f77, kf78, k79⟩ | ⟨rfl, hY80⟩)
          rotate_left
          · exact tt_ax rfl (hX12 _ (cX_mono (cX_trx FK46 (fr_wk (show fr s s59 [902, 2001, 2002, 2003, 2004, 2108, 2109, 2110, 2111, 2112, 2113, 2114, 2115, 2116] from (fr_tr (fr_tr (fr_tr hF0 f20 (by decide)) f40 (by decide)) f61 (by decide))) (by decide)) hY80 (by decide)) (by omega)))
          have FK81 : fk p c n p c75 [900, 901, 2103, 2104, 2704] := fk_tr FK46 kf78 (by decide)
          show tt Zi d 32 (133, [some (.inr (.inl 21)), some (.inr (.inl 27)), some (.inl a_), some (.inl y), some (.inl (x + r38))], [], n, D, s74, p, c75) _
          replace k79 : (s59 2001) ≤ 32768 → (s74 2001) ≤ 32768 := k79
          have b82 : 0 ≤ (s74 2001) ∧ (s74 2001) ≤ 100000 := hS74 2001
          have e83 : s74 2700 = (s59 2700) := (f77 2700 (by decide))
          have b84 : 0 ≤ (s74 2700) ∧ (s74 2700) ≤ 64 := hS74 2700
          have e85 : s74 2701 = (s59 2701) := (f77 2701 (by decide))
          have b86 : 0 ≤ (s74 2701) ∧ (s74 2701) ≤ 64 := hS74 2701
          have e87 : s74 2702 = (s59 2702) := (f77 2702 (by decide))
          have b88 : 0 ≤ (s74 2702) ∧ (s74 2702) ≤ 3 := hS74 2702
          have e89 : s74 2106 = (s59 2106) := (f77 2106 (by decide))
          have b90 : 0 ≤ (s74 2106) ∧ (s74 2106) ≤ 64 := hS74 2106
          have e91 : s74 2107 = (s59 2107) := (f77 2107 (by decide))
          have b92 : 0 ≤ (s74 2107) ∧ (s74 2107) ≤ 12288 := hS74 2107
          refine tt_k 2 (S' := (66, [some (.inr (.inl 21)), some (.inr (.inl 27)), some (.inl a_), some (.inl y), some (.inl ((x + r38) + 1))], [], n, D, s74, p, c75)) rfl ?_
          exact ih ((x + r38) + 1) s74 c75 (by omega) hS74 (fr_tr (fr_tr (fr_tr (fr_tr hF0 f20 (by decide)) f40 (by decide)) f61 (by decide)) f77 (by decide)) hC75 hW76 FK81 (show s 2001 ≤ 32768 → (s74 2001) ≤ 32768 by omega) (show (65 - ((x + r38) + 1)).toNat < m by omega)
      · show tt Zi d 32 (88, [some (.inr (.inl 21)), some (.inr (.inl 27)), some (.inl a_), some (.inl y), some (.inl x)], [], n, D, s18, p, c0) _
        refine tt_k 1 (S' := (89, [some (.inr (.inl 21)), some (.inr (.inl 27)), some (.inl a_), some (.inl y), some (.inl x)], [.inr (.inl 21)], n, D, s18, p, c0)) rfl ?_
        refine tt_cl (by omega) rfl (g_aim21 (Zi := Zi) (q := q) (n := n) (D := D) (s := s18) (p := p) (c := c0) (by omega) hz (by omega) hK0.1 hS18 hC0 hW19 ) ?_
        rintro _ _ ⟨s93, rfl, rfl, hS93, hW94, f95⟩
        show tt Zi d 32 (92, [some (.inr (.inl 21)), some (.inr (.inl 27)), some (.inl a_), some (.inl y), some (.inl x)], [], n, D, s93, p, c0) _
        have e96 : s93 2700 = (s18 2700) := (f95 2700 (by decide))
        have b97 : 0 ≤ (s93 2700) ∧ (s93 2700) ≤ 64 := hS93 2700
        have e98 : s93 2701 = (s18 2701) := (f95 2701 (by decide))
        have b99 : 0 ≤ (s93 2701) ∧ (s93 2701) ≤ 64 := hS93 2701
        have e100 : s93 2702 = (s18 2702) := (f95 2702 (by decide))
        have b101 : 0 ≤ (s93 2702) ∧ (s93 2702) ≤ 3 := hS93 2702
        have e102 : s93 2106 = (s18 2106) := (f95 2106 (by decide))
        have b103 : 0 ≤ (s93 2106) ∧ (s93 2106) ≤ 64 := hS93 2106
        have e104 : s93 2107 = (s18 2107) := (f95 2107 (by decide))
        have b105 : 0 ≤ (s93 2107) ∧ (s93 2107) ≤ 12288 := hS93 2107
        have e106 : s93 2001 = (s18 2001) := (f95 2001 (by decide))
        have b107 : 0 ≤ (s93 2001) ∧ (s93 2001) ≤ 100000 := hS93 2001
        refine tt_k 2 (S' := (95, [some (.inr (.inl 21)), some (.inr (.inl 27)), some (.inl a_), some (.inl y), some (.inl x)], [.inl x, .inr (.inl 21)], n, D, s93, p, c0)) rfl ?_
        refine tt_cl (by omega) rfl (g_tellSample21 (Zi := Zi) (q := q) (n := n) (D := D) (s := s93) (p := p) (c := c0) (by omega) hz (by omega) hK0.1 hS93 hC0 hW94 x (by omega)) ?_
        rintro _ H1 (⟨s108, c109, rfl, rfl, hS108, hC109, hW110, f111, kf112, k113⟩ | ⟨rfl, hY114⟩)
        rotate_left
        · exact tt_ax rfl (hX12 _ (cX_mono (cX_trx hK0 (fr_wk (show fr s s93 [902, 2001, 2002, 2003, 2004, 2108, 2109, 2110, 2111, 2112, 2113, 2114, 2115, 2116] from (fr_tr (fr_tr hF0 f20 (by decide)) f95 (by decide))) (by decide)) hY114 (by decide)) (by omega)))
        have FK115 : fk p c n p c109 [900, 901, 2103, 2104, 2704] := fk_tr hK0 kf112 (by decide)
        show tt Zi d 32 (98, [some (.inr (.inl 21)), some (.inr (.inl 27)), some (.inl a_), some (.inl y), some (.inl x)], [], n, D, s108, p, c109) _
        replace k113 : (s93 2001) ≤ 32768 → (s108 2001) ≤ 32768 := k113
        have b116 : 0 ≤ (s108 2001) ∧ (s108 2001) ≤ 100000 := hS108 2001
        have e117 : s108 2700 = (s93 2700) := (f111 2700 (by decide))
        have b118 : 0 ≤ (s108 2700) ∧ (s108 2700) ≤ 64 := hS108 2700
        have e119 : s108 2701 = (s93 2701) := (f111 2701 (by decide))
        have b120 : 0 ≤ (s108 2701) ∧ (s108 2701) ≤ 64 := hS108 2701
        have e121 : s108 2702 = (s93 2702) := (f111 2702 (by decide))
        have b122 : 0 ≤ (s108 2702) ∧ (s108 2702) ≤ 3 := hS108 2702
        have e123 : s108 2106 = (s93 2106) := (f111 2106 (by decide))
        have b124 : 0 ≤ (s108 2106) ∧ (s108 2106) ≤ 64 := hS108 2106
        have e125 : s108 2107 = (s93 2107) := (f111 2107 (by decide))
        have b126 : 0 ≤ (s108 2107) ∧ (s108 2107) ≤ 12288 := hS108 2107
        refine tt_k 3 (S' := (66, [some (.inr (.inl 21)), some (.inr (.inl 27)), some (.inl a_), some (.inl y), some (.inl (x + 1))], [], n, D, s108, p, c109)) rfl ?_
        exact ih (x + 1) s108 c109 (by omega) hS108 (fr_tr (fr_tr (fr_tr hF0 f20 (by decide)) f95 (by decide)) f111 (by decide)) hC109 hW110 FK115 (show s 2001 ≤ 32768 → (s108 2001) ≤ 32768 by omega) (show (65 - (x + 1)).toNat < m by omega)

set_option maxRecDepth 100000 in
set_option maxHeartbeats 4000000 in
theorem g_tellPlane21_27_L40 {g : Nat → Int} {Zi : Nat → Option (Nat × (Nat → Int))} {d n q : Nat} {D : Nat → Nat × Nat} {s : Nat → Int} {p : Nat → Nat} {c : Nat → Nat → Int}  {Q : mi_Rs → mi_H → Prop} (hd : 8 ≤ d) (hz : zk Zi) (hq : q + 16 ≤ 400001) (hD : wd n p) (hS : bS s) (hC : bC D c) (hW : wp q g n D p s) (a_ : Int) (b_a_ : 0 ≤ a_ ∧ a_ ≤ 2) (hq0 : s 2700 * s 2701 * s 2702 ≤ (ln D (p 2105) : Int)) (hq1 : s 2106 = s 2700) (hq2 : a_ < s 2702 ∧ 1 ≤ s 2700) (hq3 : p 2105 = p 2704) (hX12 : ∀ H, cX (q + 1) g s p c [900, 901, 2103, 2104, 2704] LXR H → Q (.inr 12) H)
  (hK : ∀ (y : Int) (o_4 : Option mi_V) (s0 : Nat → Int) (p0 : Nat → Nat) (c0 : Nat → Nat → Int) (b_y : 0 ≤ y ∧ y ≤ 64) (hS0 : bS s0) (hF0 : fr s s0 [902, 2001, 2002, 2003, 2004, 2107, 2108, 2109, 2110, 2111, 2112, 2113, 2114, 2115, 2116]) (hC0 : bC D c0) (hW0 : wp q g n D p0 s0) (hP0 : frp p p0 [2103, 2104]) (hK0 : fk p c n p0 c0 [900, 901, 2103, 2104, 2704]) (i0 : y ≤ s 2701) (i1 : s 2001 ≤ 32768 → s0 2001 ≤ 32768), (True) → tt Zi d 32 (149, [some (.inr (.inl 21)), some (.inr (.inl 27)), some (.inl a_), some (.inl y), o_4], [], n, D, s0, p0, c0) Q) :
  ∀ (m : Nat) (y : Int) (o_4 : Option mi_V) (s0 : Nat → Int) (p0 : Nat → Nat) (c0 : Nat → Nat → Int) (b_y : 0 ≤ y ∧ y ≤ 64) (hS0 : bS s0) (hF0 : fr s s0 [902, 2001, 2002, 2003, 2004, 2107, 2108, 2109, 2110, 2111, 2112, 2113, 2114, 2115, 2116]) (hC0 : bC D c0) (hW0 : wp q g n D p0 s0) (hP0 : frp p p0 [2103, 2104]) (hK0 : fk p c n p0 c0 [900, 901, 2103, 2104, 2704]) (i0 : y ≤ s 2701) (i1 : s 2001 ≤ 32768 → s0 2001 ≤ 32768), (s 2701 - y).toNat < m → tt Zi d 32 (40, [some (.inr (.inl 21)), some (.inr (.inl 27)), some (.inl a_), some (.inl y), o_4], [], n, D, s0, p0, c0) Q := by
  intro m
  induction m with
  | zero => intro y o_4 s0 p0 c0 b_y hS0 hF0 hC0 hW0 hP0 hK0 i0 i1 hm; exact absurd hm (by omega)
  | succ m ih =>
    intro y o_4 s0 p0 c0 b_y hS0 hF0 hC0 hW0 hP0 hK0 i0 i1 hm
    have e1 : s0 2700 = s 2700 := hF0 2700 (by decide)
    have b2 : 0 ≤ (s0 2700) ∧ (s0 2700) ≤ 64 := hS0 2700
    have b3 : 0 ≤ (s 2700) ∧ (s 2700) ≤ 64 := hS 2700
    have e4 : s0 2701 = s 2701 := hF0 2701 (by decide)
    have b5 : 0 ≤ (s0 2701) ∧ (s0 2701) ≤ 64 := hS0 2701
    have b6 : 0 ≤ (s 2701) ∧ (s 2701) ≤ 64 := hS 2701
    have e7 : s0 2702 = s 2702 := hF0 2702 (by decide)
    have b8 : 0 ≤ (s0 2702) ∧ (s0 2702) ≤ 3 := hS0 2702
    have b9 : 0 ≤ (s 2702) ∧ (s 2702) ≤ 3 := hS 2702
    have e10 : s0 2106 = s 2106 := hF0 2106 (by decide)
    have b11 : 0 ≤ (s0 2106) ∧ (s0 2106) ≤ 64 := hS0 2106
    have b12 : 0 ≤ (s 2106) ∧ (s 2106) ≤ 64 := hS 2106
    have b13 : ln D (p0 2105) ≤ 12288 := (hW0).s21.2.2
    have el : ln D (p0 2105) = ln D (p 2105) := by rw [hP0 2105 (by decide)]
    refine tt_k 3 (S' := (45, [some (.inr (.inl 21)), some (.inr (.inl 27)), some (.inl a_), some (.inl y), o_4], [.inl (s0 2701), .inl y], n, D, s0, p0, c0)) rfl ?_
    refine tb_ge (x := y) (y := (s0 2701)) rfl rfl (by omega) (fun h14 => ?_) (fun h14 => ?_)
    · show tt Zi d 32 (149, [some (.inr (.inl 21)), some (.inr (.inl 27)), some (.inl a_), some (.inl y), o_4], [], n, D, s0, p0, c0) _
      exact hK y (o_4) s0 p0 c0 (by omega) hS0 hF0 hC0 hW0 hP0 hK0 (show y ≤ s 2701 by omega) (show s 2001 ≤ 32768 → (s0 2001) ≤ 32768 by omega) trivial
    · show tt Zi d 32 (48, [some (.inr (.inl 21)), some (.inr (.inl 27)), some (.inl a_), some (.inl y), o_4], [], n, D, s0, p0, c0) _
      refine tt_k 5 (S' := (53, [some (.inr (.inl 21)), some (.inr (.inl 27)), some (.inl a_), some (.inl y), o_4], [.inl y, .inl 0, .inl a_, .inr (.inl 27), .inr (.inl 21)], n, D, s0, p0, c0)) rfl ?_
      refine tt_cl (by omega) rfl (g_index27 (Zi := Zi) (q := q) (n := n) (D := D) (s := s0) (p := p0) (c := c0) (by omega) hz (by omega) hK0.1 hS0 hC0 hW0 a_ 0 y (by omega) (by omega) (by omega) (show a_ < (s0 2702) ∧ 0 < (s0 2700) ∧ y < (s0 2701) by omega)) ?_
      rintro _ _ ⟨r15, rfl, rfl, b16, k17, k18⟩
      show tt Zi d 32 (56, [some (.inr (.inl 21)), some (.inr (.inl 27)), some (.inl a_), some (.inl y), o_4], [.inl r15, .inr (.inl 21)], n, D, s0, p0, c0) _
      replace k17 : r15 = (a_ * (s0 2701) + y) * (s0 2700) + 0 := k17
      replace k18 : r15 + (s0 2700) - 0 ≤ (s0 2700) * (s0 2701) * (s0 2702) := k18
      have hmm : (s0 2700) * (s0 2701) * (s0 2702) = s 2700 * s 2701 * s 2702 := by rw [show (s0 2700) = s 2700 by omega, show (s0 2701) = s 2701 by omega, show (s0 2702) = s 2702 by omega]
      refine tt_k 2 (S' := (60, [some (.inr (.inl 21)), some (.inr (.inl 27)), some (.inl a_), some (.inl y), o_4], [.inr (.inl 21)], n, D, (us s0 2107 r15), p0, c0)) rfl ?_
      refine tt_cl (by omega) rfl (g_openRow21 (Zi := Zi) (q := q) (n := n) (D := D) (s := (us s0 2107 r15)) (p := p0) (c := c0) (by omega) hz (by omega) hK0.1 (bS_us hS0 (show 0 ≤ r15 ∧ r15 ≤ 12288 by omega)) hC0 (wp_us (by decide) hW0) ) ?_
      rintro _ _ ⟨p19, c20, rfl, rfl, hC20, hW21, g22, kf23⟩
      have FK24 : fk p c n p19 c20 [900, 901, 2103, 2104, 2704] := fk_tr hK0 kf23 (by decide)
      show tt Zi d 32 (63, [some (.inr (.inl 21)), some (.inr (.inl 27)), some (.inl a_), some (.inl y), o_4], [], n, D, (us s0 2107 r15), p19, c20) _
      have e25 : ln D (p19 2105) = ln D (p0 2105) := (congrArg (ln D) (g22 2105 (by decide)))
      refine tt_k 2 (S' := (66, [some (.inr (.inl 21)), some (.inr (.inl 27)), some (.inl a_), some (.inl y), some (.inl 0)], [], n, D, (us s0 2107 r15), p19, c20)) rfl ?_
      refine g_tellPlane21_27_L66 (Zi := Zi) (q := q) (n := n) (D := D) (s := (us s0 2107 r15)) (p := p19) (c := c20) hd hz (by omega) FK24.1 (bS_us hS0 (show 0 ≤ r15 ∧ r15 ≤ 12288 by omega)) hC20 hW21  a_ y (by omega) (by omega) (show r15 + (s0 2106) ≤ (ln D (p19 2105) : Int) by omega) (fun H h => hX12 H (cX_mono (cX_trx FK24 (fr_wk (show fr s (us s0 2107 r15) [902, 2001, 2002, 2003, 2004, 2107, 2108, 2109, 2110, 2111, 2112, 2113, 2114, 2115, 2116] from (fr_us (by decide) hF0)) (by decide)) h (by decide)) (by omega))) ?_ _ 0 (us s0 2107 r15) c20 (by omega) (bS_us hS0 (show 0 ≤ r15 ∧ r15 ≤ 12288 by omega)) fr_rf hC20 hW21 (fk_rf FK24.1) (fun h => h) (Nat.lt_succ_self _)
      intro x26 s27 c28 b29 hS27 f30 hC28 hW31 kf32 i33 hx34
      show tt Zi d 32 (139, [some (.inr (.inl 21)), some (.inr (.inl 27)), some (.inl a_), some (.inl y), some (.inl x26)], [], n, D, s27, p19, c28) _
      have FK35 : fk p c n p19 c28 [900, 901, 2103, 2104, 2704] := fk_tr FK24 kf32 (by decide)
      replace i33 : (s0 2001) ≤ 32768 → (s27 2001) ≤ 32768 := i33
      have b36 : 0 ≤ (s27 2001) ∧ (s27 2001) ≤ 100000 := hS27 2001
      have e37 : s27 2700 = (s0 2700) := (f30 2700 (by decide))
      have b38 : 0 ≤ (s27 2700) ∧ (s27 2700) ≤ 64 := hS27 2700
      have e39 : s27 2701 = (s0 2701) := (f30 2701 (by decide))
      have b40 : 0 ≤ (s27 2701) ∧ (s27 2701) ≤ 64 := hS27 2701
      have e41 : s27 2702 = (s0 2702) := (f30 2702 (by decide))
      have b42 : 0 ≤ (s27 2702) ∧ (s27 2702) ≤ 3 := hS27 2702
      have e43 : s27 2106 = (s0 2106) := (f30 2106 (by decide))
      have b44 : 0 ≤ (s27 2106) ∧ (s27 2106) ≤ 64 := hS27 2106
      have e45 : s27 2107 = r15 := (f30 2107 (by decide))
      have b46 : 0 ≤ (s27 2107) ∧ (s27 2107) ≤ 12288 := hS27 2107
      refine tt_k 1 (S' := (140, [some (.inr (.inl 21)), some (.inr (.inl 27)), some (.inl a_), some (.inl y), some (.inl x26)], [.inr (.inl 21)], n, D, s27, p19, c28)) rfl ?_
      refine tt_cl (by omega) rfl (g_closeRow21_27 (Zi := Zi) (q := q) (n := n) (D := D) (s := s27) (p := p19) (c := c28) (by omega) hz (by omega) FK35.1 hS27 hC28 hW31 (show (s27 2107) + (s27 2106) ≤ (ln D (p19 2105) : Int) by omega) ((((g22 2105 (by decide)).trans (hP0 2105 (by decide)))).trans (hq3.trans (((g22 2704 (by decide)).trans (hP0 2704 (by decide)))).symm))) ?_
      rintro _ _ ⟨c47, rfl, rfl, hC47, kf48⟩
      have FK49 : fk p c n p19 c47 [900, 901, 2103, 2104, 2704] := fk_tr FK35 kf48 (by decide)
      show tt Zi d 32 (143, [some (.inr (.inl 21)), some (.inr (.inl 27)), some (.inl a_), some (.inl y), some (.inl x26)], [], n, D, s27, p19, c47) _
      refine tt_k 2 (S' := (40, [some (.inr (.inl 21)), some (.inr (.inl 27)), some (.inl a_), some (.inl (y + 1)), some (.inl x26)], [], n, D, s27, p19, c47)) rfl ?_
      exact ih (y + 1) (some (.inl x26)) s27 p19 c47 (by omega) hS27 (fr_tr (fr_us (by decide) hF0) f30 (by decide)) hC47 hW31 (frp_tr hP0 g22 (by decide)) FK49 (show (y + 1) ≤ s 2701 by omega) (show s 2001 ≤ 32768 → (s27 2001) ≤ 32768 by omega) (show (s 2701 - (y + 1)).toNat < m by omega)
set_option maxRecDepth 100000 in
set_option maxHeartbeats 4000000 in
theorem g_tellPlane21_27 {g : Nat → Int} {Zi : Nat → Option (Nat × (Nat → Int))} {d n q : Nat} {D : Nat → Nat × Nat} {s : Nat → Int} {p : Nat → Nat} {c : Nat → Nat → Int} (hd : 8 ≤ d) (hz : zk Zi) (hq : q + 16 ≤ 400000) (hD : wd n p) (hS : bS s) (hC : bC D c) (hW : wp q g n D p s) (a_ : Int) (b_a_ : 0 ≤ a_ ∧ a_ ≤ 2) (hp0 : a_ < s 2702 ∧ 1 ≤ s 2700) : tt Zi d 32 (0, [some (.inr (.inl 21)), some (.inr (.inl 27)), some (.inl a_), none, none], [], n, D, s, p, c) (fun R H => (∃ (s' : Nat → Int) (p' : Nat → Nat) (c' : Nat → Nat → Int), R = .inl none ∧ H = (n, D, s', p', c') ∧ bS s' ∧ bC D c' ∧ wp q g n D p' s' ∧ fr s s' [902, 2001, 2002, 2003, 2004, 2106, 2107, 2108, 2109, 2110, 2111, 2112, 2113, 2114, 2115, 2116] ∧ frp p p' [900, 901, 2103, 2104, 2105] ∧ fk p c n p' c' [900, 901, 2103, 2104, 2704] ∧ (s 2001 ≤ 32768 → s' 2001 ≤ 32768)) ∨ (R = .inr 12 ∧ cX ((q + 1)) g s p c [900, 901, 2103, 2104, 2704] LXR H)) := by
  have b1 : 0 ≤ (s 2700) ∧ (s 2700) ≤ 64 := hS 2700
  have b2 : 0 ≤ (s 2701) ∧ (s 2701) ≤ 64 := hS 2701
  have b3 : 0 ≤ (s 2702) ∧ (s 2702) ≤ 3 := hS 2702
  refine tt_k 13 (S' := (27, [some (.inr (.inl 21)), some (.inr (.inl 27)), some (.inl a_), none, none], [.inl (s 807), .inr (.inl 9)], n, D, (us s 2106 (s 2700)), (up p 2105 (p 2704)), c)) rfl ?_
  have b4 : 0 ≤ (s 807) ∧ (s 807) ≤ 65536 := hS 807
  have FK5 : fk p c n (up p 2105 (p 2704)) c [900, 901, 2103, 2104, 2704] := (fk_up (by decide) (fk_rf hD))
  refine tt_cl (by omega) rfl (g_begin (Zi := Zi) (q := q) (n := n) (D := D) (s := (us s 2106 (s 2700))) (p := (up p 2105 (p 2704))) (c := c) (by omega) hz (by omega) FK5.1 (bS_us hS (show 0 ≤ (s 2700) ∧ (s 2700) ≤ 64 by omega)) hC (wp_us (by decide) (wp_sa21_27 hW)) (s 807) (by omega)) ?_
  rintro _ _ ⟨s6, c7, rfl, rfl, hS6, hC7, hW8, f9, kf10⟩
  have FK11 : fk p c n (up p 2105 (p 2704)) c7 [900, 901, 2103, 2104, 2704] := fk_tr FK5 kf10 (by decide)
  show tt Zi d 32 (30, [some (.inr (.inl 21)), some (.inr (.inl 27)), some (.inl a_), none, none], [], n, D, s6, (up p 2105 (p 2704)), c7) _
  have e12 : s6 2700 = (s 2700) := (f9 2700 (by decide))
  have b13 : 0 ≤ (s6 2700) ∧ (s6 2700) ≤ 64 := hS6 2700
  have e14 : s6 2701 = (s 2701) := (f9 2701 (by decide))
  have b15 : 0 ≤ (s6 2701) ∧ (s6 2701) ≤ 64 := hS6 2701
  have e16 : s6 2702 = (s 2702) := (f9 2702 (by decide))
  have b17 : 0 ≤ (s6 2702) ∧ (s6 2702) ≤ 3 := hS6 2702
  have e18 : s6 2106 = (s 2700) := (f9 2106 (by decide))
  have b19 : 0 ≤ (s6 2106) ∧ (s6 2106) ≤ 64 := hS6 2106
  have e20 : s6 2107 = (s 2107) := (f9 2107 (by decide))
  have b21 : 0 ≤ (s6 2107) ∧ (s6 2107) ≤ 12288 := hS6 2107
  have b22 : 0 ≤ (s 2107) ∧ (s 2107) ≤ 12288 := hS 2107
  have e23 : s6 2001 = (s 2001) := (f9 2001 (by decide))
  have b24 : 0 ≤ (s6 2001) ∧ (s6 2001) ≤ 100000 := hS6 2001
  have b25 : 0 ≤ (s 2001) ∧ (s 2001) ≤ 100000 := hS 2001
  refine tt_k 3 (S' := (35, [some (.inr (.inl 21)), some (.inr (.inl 27)), some (.inl a_), none, none], [.inl 0, .inr (.inl (p 2104))], n, D, s6, (up p 2105 (p 2704)), c7)) rfl ?_
  refine tt_cl (by omega) rfl (g_fill (A := (p 2104)) (m := 66) (s := s6) (p := (up p 2105 (p 2704))) ((sw_arr (hW8).a21 rfl rfl).2) (by omega) (by rw [(show bC_lo D (p 2104) = 0 ∧ bC_hi D (p 2104) = 65535 from ((sw_21 (hW8).a21).2)).1, (show bC_lo D (p 2104) = 0 ∧ bC_hi D (p 2104) = 65535 from ((sw_21 (hW8).a21).2)).2]; decide) hC7) ?_
  rintro _ _ ⟨c26, rfl, rfl, hC26, fc26, ec26, zc26⟩
  show tt Zi d 32 (38, [some (.inr (.inl 21)), some (.inr (.inl 27)), some (.inl a_), none, none], [], n, D, s6, (up p 2105 (p 2704)), c26) _
  have FK27 : fk p c n (up p 2105 (p 2704)) c26 [900, 901, 2103, 2104, 2704] := fk_st (k := 2104) FK11 ec26 (by decide) rfl
  refine tt_k 2 (S' := (40, [some (.inr (.inl 21)), some (.inr (.inl 27)), some (.inl a_), some (.inl 0), none], [], n, D, s6, (up p 2105 (p 2704)), c26)) rfl ?_
  refine g_tellPlane21_27_L40 (Zi := Zi) (q := q) (n := n) (D := D) (s := s6) (p := (up p 2105 (p 2704))) (c := c26) hd hz (by omega) FK27.1 hS6 hC26 hW8  a_ (by omega) (show _ from (hW8).w27) (show (s6 2106) = (s6 2700) by omega) (show a_ < (s6 2702) ∧ 1 ≤ (s6 2700) by omega) rfl (fun H h => (Or.inr ⟨rfl, cX_mono (cX_trx FK27 (show fr s s6 LXR from (fr_tr (fr_us (by decide) fr_rf) f9 (by decide))) h (by decide)) (by omega)⟩)) ?_ _ 0 (none) s6 (up p 2105 (p 2704)) c26 (by omega) hS6 fr_rf hC26 hW8 frp_rf (fk_rf FK27.1) (show 0 ≤ (s6 2701) by omega) (fun h => h) (Nat.lt_succ_self _)
  intro x28 x29 s30 p31 c32 b33 hS30 f34 hC32 hW35 g36 kf37 i38 i39 hx40
  show tt Zi d 32 (149, [some (.inr (.inl 21)), some (.inr (.inl 27)), some (.inl a_), some (.inl x28), x29], [], n, D, s30, p31, c32) _
  have FK41 : fk p c n p31 c32 [900, 901, 2103, 2104, 2704] := fk_tr FK27 kf37 (by decide)
  replace i38 : x28 ≤ (s6 2701) := i38
  replace i39 : (s6 2001) ≤ 32768 → (s30 2001) ≤ 32768 := i39
  have b42 : 0 ≤ (s30 2001) ∧ (s30 2001) ≤ 100000 := hS30 2001
  have e43 : s30 2700 = (s6 2700) := (f34 2700 (by decide))
  have b44 : 0 ≤ (s30 2700) ∧ (s30 2700) ≤ 64 := hS30 2700
  have e45 : s30 2701 = (s6 2701) := (f34 2701 (by decide))
  have b46 : 0 ≤ (s30 2701) ∧ (s30 2701) ≤ 64 := hS30 2701
  have e47 : s30 2702 = (s6 2702) := (f34 2702 (by decide))
  have b48 : 0 ≤ (s30 2702) ∧ (s30 2702) ≤ 3 := hS30 2702
  have e49 : s30 2106 = (s6 2106) := (f34 2106 (by decide))
  have b50 : 0 ≤ (s30 2106) ∧ (s30 2106) ≤ 64 := hS30 2106
  have e51 : ln D (p31 2105) = ln D (p 2704) := (congrArg (ln D) (g36 2105 (by decide)))
  refine tt_k 2 (S' := (153, [some (.inr (.inl 21)), some (.inr (.inl 27)), some (.inl a_), some (.inl x28), x29], [.inr (.inl 9)], n, D, s30, p31, c32)) rfl ?_
  refine tt_cl (by omega) rfl (g_keep (Zi := Zi) (q := q) (n := n) (D := D) (s := s30) (p := p31) (c := c32) (by omega) hz (by omega) FK41.1 hS30 hC32 hW35 ) ?_
  rintro _ _ ⟨p52, rfl, rfl, hW53, g54, kf55⟩
  have FK56 : fk p c n p52 c32 [900, 901, 2103, 2104, 2704] := fk_tr FK41 kf55 (by decide)
  show tt Zi d 32 (156, [some (.inr (.inl 21)), some (.inr (.inl 27)), some (.inl a_), some (.inl x28), x29], [], n, D, s30, p52, c32) _
  have e57 : ln D (p52 2105) = ln D (p31 2105) := (congrArg (ln D) (g54 2105 (by decide)))
  exact tt_rtv rfl rfl (Or.inl ⟨s30, p52, c32, rfl, rfl, hS30, hC32, hW53, (fr_tr (fr_tr (fr_us (by decide) fr_rf) f9 (by decide)) f34 (by decide)), (frp_tr (frp_tr (frp_up (by decide) frp_rf) g36 (by decide)) g54 (by decide)), FK56, by show s 2001 ≤ 32768 → (s30 2001) ≤ 32768; omega⟩)
