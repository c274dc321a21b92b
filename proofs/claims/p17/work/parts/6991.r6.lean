/-! the class reads a SCAN, exactly -/
set_option maxRecDepth 100000 in
set_option maxHeartbeats 4000000 in
theorem e_readScan25 {g : Nat → Int} {Zi : Nat → Option (Nat × (Nat → Int))} {d n q : Nat} {D : Nat → Nat × Nat} {s : Nat → Int} {p : Nat → Nat} {c : Nat → Nat → Int} (hd : 6 ≤ d) (hz : zk Zi) (hq : q + 12 ≤ 400000) (hD : wd n p) (hS : bS s) (hC : bC D c) (hW : wp q g n D p s) (A : TN) (hp0 : tpl A (s 601) (c (p 600))) (hp1 : s 1705 = 1 → (1 ≤ s 2500 ∧ 2 ≤ s 2503 ∧ s 1706 ≤ s 2502)) : tt Zi d 24 (0, [some (.inr (.inl 17)), some (.inr (.inl 25)), none, none, none], [], n, D, s, p, c) (fun R H => (∃ (s' : Nat → Int), R = .inl none ∧ H = (n, D, s', p, c) ∧ bS s' ∧ wp q g n D p s' ∧ fr s s' [800, 801, 802, 803, 804, 805, 806, 807, 808, 809, 2001] ∧ (s 1705 = 1 ∧ 1 ≤ s 1706) ∧ (okS A (s 2001) (c 19 (s 2502 - s 1706).toNat)) ∧ (s' 2001 = s 2001 + 8 ∧ s' 2001 ≤ s 601) ∧ (VM (c 18 0) (c 18 1) (c 18 2) (c 18 3) (c 18 4) (s 2503) (gB A (s 2001 + 5))) ∧ (zq (ZM (c 18 0) (c 18 1) (c 18 2) (c 18 3) (c 18 4) (s 2503) (gB A (s 2001 + 5))) (s' 800) (s' 801) (s' 802) (s' 803) (s' 804) (s' 805) (s' 806) (s' 807) (s' 808) (s' 809))) ∨ (R = .inr 12 ∧ cXp ((q + 1)) g s p c [] [800, 801, 802, 803, 804, 805, 806, 807, 808, 809, 902, 1705, 1706, 2001, 2002, 2003, 2004, 2005, 2006, 2106, 2107, 2108, 2109, 2110, 2111, 2112, 2113, 2114, 2115, 2116] H ∧ (¬ (s 1705 = 1 ∧ 1 ≤ s 1706 ∧ (okS A (s 2001) (c 19 (s 2502 - s 1706).toNat)) ∧ VM (c 18 0) (c 18 1) (c 18 2) (c 18 3) (c 18 4) (s 2503) (gB A (s 2001 + 5)))))) := by
  have b1 : 0 ≤ (s 601) ∧ (s 601) ≤ 32768 := hS 601
  have b2 : 0 ≤ (s 2001) ∧ (s 2001) ≤ 100000 := hS 2001
  have hA := hp0.1
  have b3 : 0 ≤ (s 1705) ∧ (s 1705) ≤ 1 := hS 1705
  have b4 : 0 ≤ (s 1706) ∧ (s 1706) ≤ 3 := hS 1706
  have b5 : 0 ≤ (s 2502) ∧ (s 2502) ≤ 3 := hS 2502
  have b6 : 0 ≤ (s 2503) ∧ (s 2503) ≤ 16 := hS 2503
  have b7 : 0 ≤ (s 2500) ∧ (s 2500) ≤ 64 := hS 2500
  refine tt_k 2 (S' := (4, [some (.inr (.inl 17)), some (.inr (.inl 25)), none, none, none], [.inl (s 1705)], n, D, s, p, c)) rfl ?_
  refine tz_eq (x := (s 1705)) rfl rfl (by omega) (fun h8 => ?_) (fun h8 => ?_)
  · show tt Zi d 24 (14, [some (.inr (.inl 17)), some (.inr (.inl 25)), none, none, none], [], n, D, s, p, c) _
    refine tt_k 1 (S' := (15, [some (.inr (.inl 17)), some (.inr (.inl 25)), none, none, none], [.inr (.inl 17)], n, D, s, p, c)) rfl ?_
    refine tt_cl (by omega) rfl (e_refuseMark (Zi := Zi) (q := q) (n := n) (D := D) (s := s) (p := p) (c := c) (by omega) hz (by omega) hD hS hC hW ) ?_
    rintro _ H1 (hF | ⟨rfl, hY9⟩)
    · exact hF.elim
    · exact tt_ax rfl (Or.inr ⟨rfl, cXp_mono (cXp_tr (fk_rf hD) (show fr s s [800, 801, 802, 803, 804, 805, 806, 807, 808, 809, 902, 1705, 1706, 2001, 2002, 2003, 2004, 2005, 2006, 2106, 2107, 2108, 2109, 2110, 2111, 2112, 2113, 2114, 2115, 2116] from fr_rf) ((frp_rf : frp p p []) 8 (by decide)) hY9 (by decide) (by decide)) (by omega), (fun h => by have h1 := h.1; have h2 := h.2.1; omega)⟩)
  · show tt Zi d 24 (7, [some (.inr (.inl 17)), some (.inr (.inl 25)), none, none, none], [], n, D, s, p, c) _
    refine tt_k 2 (S' := (11, [some (.inr (.inl 17)), some (.inr (.inl 25)), none, none, none], [.inl (s 1706)], n, D, s, p, c)) rfl ?_
    refine tz_ne (x := (s 1706)) rfl rfl (by omega) (fun h10 => ?_) (fun h10 => ?_)
    · show tt Zi d 24 (18, [some (.inr (.inl 17)), some (.inr (.inl 25)), none, none, none], [], n, D, s, p, c) _
      refine tt_k 2 (S' := (22, [some (.inr (.inl 17)), some (.inr (.inl 25)), none, none, none], [.inr (.inl 20)], n, D, s, p, c)) rfl ?_
      refine tt_cl (by omega) rfl (e_readTwo (Zi := Zi) (q := q) (n := n) (D := D) (s := s) (p := p) (c := c) (by omega) hz (by omega) hD hS hC hW A hp0) ?_
      rintro _ H1 (⟨s11, r12, rfl, rfl, hS11, hW13, f14, b15, k16, k17, k18⟩ | ⟨rfl, hY19, hn20⟩)
      rotate_left
      · exact tt_ax rfl (Or.inr ⟨rfl, cXp_mono (cXp_tr (fk_rf hD) (show fr s s [800, 801, 802, 803, 804, 805, 806, 807, 808, 809, 902, 1705, 1706, 2001, 2002, 2003, 2004, 2005, 2006, 2106, 2107, 2108, 2109, 2110, 2111, 2112, 2113, 2114, 2115, 2116] from fr_rf) ((frp_rf : frp p p []) 8 (by decide)) hY19 (by decide) (by decide)) (by omega), (fun h => by have h2 := rdTwo_gn (a := s 2001) (by rw [show s 2001 = s 2001 by omega]; exact hn20); obtain ⟨_, _, ⟨h3, h4, h5, h6, h7, h8, h9⟩, _⟩ := h; omega)⟩)
      show tt Zi d 24 (25, [some (.inr (.inl 17)), some (.inr (.inl 25)), none, none, none], [.inl r12], n, D, s11, p, c) _
      replace k16 : rdTwo A ((s 2001)) = some r12 := k16
      replace k17 : (s11 2001) = (s 2001) + 2 := k17
      replace k18 : (s11 2001) ≤ (s 601) := k18
      have b21 : 0 ≤ (s11 2001) ∧ (s11 2001) ≤ 100000 := hS11 2001
      have e22 : s11 601 = (s 601) := (f14 601 (by decide))
      have b23 : 0 ≤ (s11 601) ∧ (s11 601) ≤ 32768 := hS11 601
      have e24 : s11 1705 = (s 1705) := (f14 1705 (by decide))
      have b25 : 0 ≤ (s11 1705) ∧ (s11 1705) ≤ 1 := hS11 1705
      have e26 : s11 1706 = (s 1706) := (f14 1706 (by decide))
      have b27 : 0 ≤ (s11 1706) ∧ (s11 1706) ≤ 3 := hS11 1706
      have e28 : s11 2502 = (s 2502) := (f14 2502 (by decide))
      have b29 : 0 ≤ (s11 2502) ∧ (s11 2502) ≤ 3 := hS11 2502
      have e30 : s11 2503 = (s 2503) := (f14 2503 (by decide))
      have b31 : 0 ≤ (s11 2503) ∧ (s11 2503) ≤ 16 := hS11 2503
      have hx32 : tpl A (s11 601) (c (p 600)) := by rw [f14 601 (by decide)]; exact hp0
      have hg0 : s 2001 + 1 < A.2 ∧ gT A (s 2001) = r12 := rdTwo_g (by rw [show s 2001 = s 2001 by omega]; exact k16)
      refine tt_k 4 (S' := (30, [some (.inr (.inl 17)), some (.inr (.inl 25)), some (.inl r12), none, none], [.inl 8, .inl r12, .inr (.inl 17)], n, D, s11, p, c)) rfl ?_
      have K34 : ∀ (j33 : Int) , (0 ≤ j33 ∧ j33 ≤ 1) → (j33 = 1 ↔ r12 = 8) → (True) → tt Zi d 24 (38, [some (.inr (.inl 17)), some (.inr (.inl 25)), some (.inl r12), none, none], [.inl j33, .inr (.inl 17)], n, D, s11, p, c) (fun R H => (∃ (s' : Nat → Int), R = .inl none ∧ H = (n, D, s', p, c) ∧ bS s' ∧ wp q g n D p s' ∧ fr s s' [800, 801, 802, 803, 804, 805, 806, 807, 808, 809, 2001] ∧ (s 1705 = 1 ∧ 1 ≤ s 1706) ∧ (okS A (s 2001) (c 19 (s 2502 - s 1706).toNat)) ∧ (s' 2001 = s 2001 + 8 ∧ s' 2001 ≤ s 601) ∧ (VM (c 18 0) (c 18 1) (c 18 2) (c 18 3) (c 18 4) (s 2503) (gB A (s 2001 + 5))) ∧ (zq (ZM (c 18 0) (c 18 1) (c 18 2) (c 18 3) (c 18 4) (s 2503) (gB A (s 2001 + 5))) (s' 800) (s' 801) (s' 802) (s' 803) (s' 804) (s' 805) (s' 806) (s' 807) (s' 808) (s' 809))) ∨ (R = .inr 12 ∧ cXp ((q + 1)) g s p c [] [800, 801, 802, 803, 804, 805, 806, 807, 808, 809, 902, 1705, 1706, 2001, 2002, 2003, 2004, 2005, 2006, 2106, 2107, 2108, 2109, 2110, 2111, 2112, 2113, 2114, 2115, 2116] H ∧ (¬ (s 1705 = 1 ∧ 1 ≤ s 1706 ∧ (okS A (s 2001) (c 19 (s 2502 - s 1706).toNat)) ∧ VM (c 18 0) (c 18 1) (c 18 2) (c 18 3) (c 18 4) (s 2503) (gB A (s 2001 + 5)))))) := by
        intro j33 b36 b37 hj35
        refine tt_k 2 (S' := (42, [some (.inr (.inl 17)), some (.inr (.inl 25)), some (.inl r12), none, none], [.inr (.inl 20), .inl j33, .inr (.inl 17)], n, D, s11, p, c)) rfl ?_
        refine tt_cl (by omega) rfl (g_openPlace (Zi := Zi) (q := q) (n := n) (D := D) (s := s11) (p := p) (c := c) (by omega) hz (by omega) hD hS11 hC hW13 ) ?_
        rintro _ _ ⟨r38, rfl, rfl, b39, k40⟩
        show tt Zi d 24 (45, [some (.inr (.inl 17)), some (.inr (.inl 25)), some (.inl r12), none, none], [.inl r38, .inl j33, .inr (.inl 17)], n, D, s11, p, c) _
        replace k40 : r38 = (s11 2001) - 1 := k40
        refine tt_k 2 (S' := (47, [some (.inr (.inl 17)), some (.inr (.inl 25)), some (.inl r12), none, none], [.inl (r38 - 1), .inl j33, .inr (.inl 17)], n, D, s11, p, c)) rfl ?_
        refine tt_cl (by omega) rfl (e_checkLength (Zi := Zi) (q := q) (n := n) (D := D) (s := s11) (p := p) (c := c) (by omega) hz (by omega) hD hS11 hC hW13 j33 (r38 - 1) (by omega) (by omega)) ?_
        rintro _ H1 (⟨rfl, rfl, k41⟩ | ⟨rfl, hY42, hn43⟩)
        rotate_left
        · exact tt_ax rfl (Or.inr ⟨rfl, cXp_mono (cXp_tr (fk_rf hD) (show fr s s11 [800, 801, 802, 803, 804, 805, 806, 807, 808, 809, 902, 1705, 1706, 2001, 2002, 2003, 2004, 2005, 2006, 2106, 2107, 2108, 2109, 2110, 2111, 2112, 2113, 2114, 2115, 2116] from (fr_tr fr_rf f14 (by decide))) ((frp_rf : frp p p []) 8 (by decide)) hY42 (by decide) (by decide)) (by omega), (fun h => by obtain ⟨_, _, ⟨h3, h4, h5, h6, h7, h8, h9⟩, _⟩ := h; omega)⟩)
        show tt Zi d 24 (50, [some (.inr (.inl 17)), some (.inr (.inl 25)), some (.inl r12), none, none], [], n, D, s11, p, c) _
        replace k41 : j33 = 1 := k41
        refine tt_k 3 (S' := (55, [some (.inr (.inl 17)), some (.inr (.inl 25)), some (.inl r12), none, none], [.inl 1, .inr (.inl 20)], n, D, s11, p, c)) rfl ?_
        refine tt_cl (by omega) rfl (e_expect (Zi := Zi) (q := q) (n := n) (D := D) (s := s11) (p := p) (c := c) (by omega) hz (by omega) hD hS11 hC hW13 A 1 (by omega) hx32) ?_
        rintro _ H1 (⟨s44, rfl, rfl, hS44, hW45, f46, k47, k48, k49⟩ | ⟨rfl, hY50, hn51⟩)
        rotate_left
        · exact tt_ax rfl (Or.inr ⟨rfl, cXp_mono (cXp_tr (fk_rf hD) (show fr s s11 [800, 801, 802, 803, 804, 805, 806, 807, 808, 809, 902, 1705, 1706, 2001, 2002, 2003, 2004, 2005, 2006, 2106, 2107, 2108, 2109, 2110, 2111, 2112, 2113, 2114, 2115, 2116] from (fr_tr fr_rf f14 (by decide))) ((frp_rf : frp p p []) 8 (by decide)) hY50 (by decide) (by decide)) (by omega), (fun h => by have h2 := rdB_gx (a := s 2001 + 2) (by rw [show s 2001 + 2 = s11 2001 by omega]; exact hn51); obtain ⟨_, _, ⟨h3, h4, h5, h6, h7, h8, h9⟩, _⟩ := h; omega)⟩)
        show tt Zi d 24 (58, [some (.inr (.inl 17)), some (.inr (.inl 25)), some (.inl r12), none, none], [], n, D, s44, p, c) _
        replace k47 : rdB A ((s11 2001)) = some 1 := k47
        replace k48 : (s44 2001) = (s11 2001) + 1 := k48
        replace k49 : (s44 2001) ≤ (s11 601) := k49
        have b52 : 0 ≤ (s44 2001) ∧ (s44 2001) ≤ 100000 := hS44 2001
        have e53 : s44 601 = (s11 601) := (f46 601 (by decide))
        have b54 : 0 ≤ (s44 601) ∧ (s44 601) ≤ 32768 := hS44 601
        have e55 : s44 1705 = (s11 1705) := (f46 1705 (by decide))
        have b56 : 0 ≤ (s44 1705) ∧ (s44 1705) ≤ 1 := hS44 1705
        have e57 : s44 1706 = (s11 1706) := (f46 1706 (by decide))
        have b58 : 0 ≤ (s44 1706) ∧ (s44 1706) ≤ 3 := hS44 1706
        have e59 : s44 2502 = (s11 2502) := (f46 2502 (by decide))
        have b60 : 0 ≤ (s44 2502) ∧ (s44 2502) ≤ 3 := hS44 2502
        have e61 : s44 2503 = (s11 2503) := (f46 2503 (by decide))
        have b62 : 0 ≤ (s44 2503) ∧ (s44 2503) ≤ 16 := hS44 2503
        have hx63 : tpl A (s44 601) (c (p 600)) := by rw [f46 601 (by decide)]; exact hx32
        have hg2 : s 2001 + 2 < A.2 ∧ gB A (s 2001 + 2) = 1 := rdB_g (by rw [show s 2001 + 2 = s11 2001 by omega]; exact k47)
        refine tt_k 9 (S' := (75, [some (.inr (.inl 17)), some (.inr (.inl 25)), some (.inl r12), none, none], [.inl ((s44 2502) - (s44 1706)), .inr (.inl 19), .inr (.inl 20)], n, D, s44, p, c)) rfl ?_
        refine tt_ilb (i := ((s44 2502) - (s44 1706))) (m := 3) (lo := -2147483648) (hi := 2147483647) rfl rfl (by omega) hC ⟨rfl, rfl⟩ ?_
        intro v64 b65 hvv64
        show tt Zi d 24 (76, [some (.inr (.inl 17)), some (.inr (.inl 25)), some (.inl r12), none, none], [.inl v64, .inr (.inl 20)], n, D, s44, p, c) _
        have hnv : (c 19 (s 2502 - s 1706).toNat) = v64 := by rw [← hvv64]; exact congrArg (fun z : Int => c 19 z.toNat) (by omega)
        refine tt_cl (by omega) rfl (e_expect (Zi := Zi) (q := q) (n := n) (D := D) (s := s44) (p := p) (c := c) (by omega) hz (by omega) hD hS44 hC hW45 A v64 (by omega) hx63) ?_
        rintro _ H1 (⟨s66, rfl, rfl, hS66, hW67, f68, k69, k70, k71⟩ | ⟨rfl, hY72, hn73⟩)
        rotate_left
        · exact tt_ax rfl (Or.inr ⟨rfl, cXp_mono (cXp_tr (fk_rf hD) (show fr s s44 [800, 801, 802, 803, 804, 805, 806, 807, 808, 809, 902, 1705, 1706, 2001, 2002, 2003, 2004, 2005, 2006, 2106, 2107, 2108, 2109, 2110, 2111, 2112, 2113, 2114, 2115, 2116] from (fr_tr (fr_tr fr_rf f14 (by decide)) f46 (by decide))) ((frp_rf : frp p p []) 8 (by decide)) hY72 (by decide) (by decide)) (by omega), (fun h => by have h2 := rdB_gx (a := s 2001 + 3) (by rw [show s 2001 + 3 = s44 2001 by omega]; exact hn73); obtain ⟨_, _, ⟨h3, h4, h5, h6, h7, h8, h9⟩, _⟩ := h; omega)⟩)
        show tt Zi d 24 (79, [some (.inr (.inl 17)), some (.inr (.inl 25)), some (.inl r12), none, none], [], n, D, s66, p, c) _
        replace k69 : rdB A ((s44 2001)) = some v64 := k69
        replace k70 : (s66 2001) = (s44 2001) + 1 := k70
        replace k71 : (s66 2001) ≤ (s44 601) := k71
        have b74 : 0 ≤ (s66 2001) ∧ (s66 2001) ≤ 100000 := hS66 2001
        have e75 : s66 601 = (s44 601) := (f68 601 (by decide))
        have b76 : 0 ≤ (s66 601) ∧ (s66 601) ≤ 32768 := hS66 601
        have e77 : s66 1705 = (s44 1705) := (f68 1705 (by decide))
        have b78 : 0 ≤ (s66 1705) ∧ (s66 1705) ≤ 1 := hS66 1705
        have e79 : s66 1706 = (s44 1706) := (f68 1706 (by decide))
        have b80 : 0 ≤ (s66 1706) ∧ (s66 1706) ≤ 3 := hS66 1706
        have e81 : s66 2502 = (s44 2502) := (f68 2502 (by decide))
        have b82 : 0 ≤ (s66 2502) ∧ (s66 2502) ≤ 3 := hS66 2502
        have e83 : s66 2503 = (s44 2503) := (f68 2503 (by decide))
        have b84 : 0 ≤ (s66 2503) ∧ (s66 2503) ≤ 16 := hS66 2503
        have hx85 : tpl A (s66 601) (c (p 600)) := by rw [f68 601 (by decide)]; exact hx63
        have hg3 : s 2001 + 3 < A.2 ∧ gB A (s 2001 + 3) = v64 := rdB_g (by rw [show s 2001 + 3 = s44 2001 by omega]; exact k69)
        refine tt_k 3 (S' := (84, [some (.inr (.inl 17)), some (.inr (.inl 25)), some (.inl r12), none, none], [.inl 0, .inr (.inl 20)], n, D, s66, p, c)) rfl ?_
        refine tt_cl (by omega) rfl (e_expect (Zi := Zi) (q := q) (n := n) (D := D) (s := s66) (p := p) (c := c) (by omega) hz (by omega) hD hS66 hC hW67 A 0 (by omega) hx85) ?_
        rintro _ H1 (⟨s86, rfl, rfl, hS86, hW87, f88, k89, k90, k91⟩ | ⟨rfl, hY92, hn93⟩)
        rotate_left
        · exact tt_ax rfl (Or.inr ⟨rfl, cXp_mono (cXp_tr (fk_rf hD) (show fr s s66 [800, 801, 802, 803, 804, 805, 806, 807, 808, 809, 902, 1705, 1706, 2001, 2002, 2003, 2004, 2005, 2006, 2106, 2107, 2108, 2109, 2110, 2111, 2112, 2113, 2114, 2115, 2116] from (fr_tr (fr_tr (fr_tr fr_rf f14 (by decide)) f46 (by decide)) f68 (by decide))) ((frp_rf : frp p p []) 8 (by decide)) hY92 (by decide) (by decide)) (by omega), (fun h => by have h2 := rdB_gx (a := s 2001 + 4) (by rw [show s 2001 + 4 = s66 2001 by omega]; exact hn93); obtain ⟨_, _, ⟨h3, h4, h5, h6, h7, h8, h9⟩, _⟩ := h; omega)⟩)
        show tt Zi d 24 (87, [some (.inr (.inl 17)), some (.inr (.inl 25)), some (.inl r12), none, none], [], n, D, s86, p, c) _
        replace k89 : rdB A ((s66 2001)) = some 0 := k89
        replace k90 : (s86 2001) = (s66 2001) + 1 := k90
        replace k91 : (s86 2001) ≤ (s66 601) := k91
        have b94 : 0 ≤ (s86 2001) ∧ (s86 2001) ≤ 100000 := hS86 2001
        have e95 : s86 601 = (s66 601) := (f88 601 (by decide))
        have b96 : 0 ≤ (s86 601) ∧ (s86 601) ≤ 32768 := hS86 601
        have e97 : s86 1705 = (s66 1705) := (f88 1705 (by decide))
        have b98 : 0 ≤ (s86 1705) ∧ (s86 1705) ≤ 1 := hS86 1705
        have e99 : s86 1706 = (s66 1706) := (f88 1706 (by decide))
        have b100 : 0 ≤ (s86 1706) ∧ (s86 1706) ≤ 3 := hS86 1706
        have e101 : s86 2502 = (s66 2502) := (f88 2502 (by decide))
        have b102 : 0 ≤ (s86 2502) ∧ (s86 2502) ≤ 3 := hS86 2502
        have e103 : s86 2503 = (s66 2503) := (f88 2503 (by decide))
        have b104 : 0 ≤ (s86 2503) ∧ (s86 2503) ≤ 16 := hS86 2503
        have hx105 : tpl A (s86 601) (c (p 600)) := by rw [f88 601 (by decide)]; exact hx85
        have hg4 : s 2001 + 4 < A.2 ∧ gB A (s 2001 + 4) = 0 := rdB_g (by rw [show s 2001 + 4 = s66 2001 by omega]; exact k89)
        refine tt_k 2 (S' := (91, [some (.inr (.inl 17)), some (.inr (.inl 25)), some (.inl r12), none, none], [.inr (.inl 20)], n, D, s86, p, c)) rfl ?_
        refine tt_cl (by omega) rfl (e_readByte (Zi := Zi) (q := q) (n := n) (D := D) (s := s86) (p := p) (c := c) (by omega) hz (by omega) hD hS86 hC hW87 A hx105) ?_
        rintro _ H1 (⟨s106, r107, rfl, rfl, hS106, hW108, f109, b110, k111, k112, k113⟩ | ⟨rfl, hY114, hn115⟩)
        rotate_left
        · exact tt_ax rfl (Or.inr ⟨rfl, cXp_mono (cXp_tr (fk_rf hD) (show fr s s86 [800, 801, 802, 803, 804, 805, 806, 807, 808, 809, 902, 1705, 1706, 2001, 2002, 2003, 2004, 2005, 2006, 2106, 2107, 2108, 2109, 2110, 2111, 2112, 2113, 2114, 2115, 2116] from (fr_tr (fr_tr (fr_tr (fr_tr fr_rf f14 (by decide)) f46 (by decide)) f68 (by decide)) f88 (by decide))) ((frp_rf : frp p p []) 8 (by decide)) hY114 (by decide) (by decide)) (by omega), (fun h => by have h2 := rdB_gn (a := s 2001 + 5) (by rw [show s 2001 + 5 = s86 2001 by omega]; exact hn115); obtain ⟨_, _, ⟨h3, h4, h5, h6, h7, h8, h9⟩, _⟩ := h; omega)⟩)
        show tt Zi d 24 (94, [some (.inr (.inl 17)), some (.inr (.inl 25)), some (.inl r12), none, none], [.inl r107], n, D, s106, p, c) _
        replace k111 : rdB A ((s86 2001)) = some r107 := k111
        replace k112 : (s106 2001) = (s86 2001) + 1 := k112
        replace k113 : (s106 2001) ≤ (s86 601) := k113
        have b116 : 0 ≤ (s106 2001) ∧ (s106 2001) ≤ 100000 := hS106 2001
        have e117 : s106 601 = (s86 601) := (f109 601 (by decide))
        have b118 : 0 ≤ (s106 601) ∧ (s106 601) ≤ 32768 := hS106 601
        have e119 : s106 1705 = (s86 1705) := (f109 1705 (by decide))
        have b120 : 0 ≤ (s106 1705) ∧ (s106 1705) ≤ 1 := hS106 1705
        have e121 : s106 1706 = (s86 1706) := (f109 1706 (by decide))
        have b122 : 0 ≤ (s106 1706) ∧ (s106 1706) ≤ 3 := hS106 1706
        have e123 : s106 2502 = (s86 2502) := (f109 2502 (by decide))
        have b124 : 0 ≤ (s106 2502) ∧ (s106 2502) ≤ 3 := hS106 2502
        have e125 : s106 2503 = (s86 2503) := (f109 2503 (by decide))
        have b126 : 0 ≤ (s106 2503) ∧ (s106 2503) ≤ 16 := hS106 2503
        have hx127 : tpl A (s106 601) (c (p 600)) := by rw [f109 601 (by decide)]; exact hx105
        have hg5 : s 2001 + 5 < A.2 ∧ gB A (s 2001 + 5) = r107 := rdB_g (by rw [show s 2001 + 5 = s86 2001 by omega]; exact k111)
        refine tt_k 3 (S' := (99, [some (.inr (.inl 17)), some (.inr (.inl 25)), some (.inl r12), some (.inl r107), none], [.inr (.inl 20)], n, D, s106, p, c)) rfl ?_
        refine tt_cl (by omega) rfl (g_openPlace (Zi := Zi) (q := q) (n := n) (D := D) (s := s106) (p := p) (c := c) (by omega) hz (by omega) hD hS106 hC hW108 ) ?_
        rintro _ _ ⟨r128, rfl, rfl, b129, k130⟩
        show tt Zi d 24 (102, [some (.inr (.inl 17)), some (.inr (.inl 25)), some (.inl r12), some (.inl r107), none], [.inl r128], n, D, s106, p, c) _
        replace k130 : r128 = (s106 2001) - 1 := k130
        refine tt_k 4 (S' := (109, [some (.inr (.inl 17)), some (.inr (.inl 25)), some (.inl r12), some (.inl r107), some (.inl r128)], [.inl 0, .inr (.inl 20)], n, D, s106, p, c)) rfl ?_
        refine tt_cl (by omega) rfl (e_expect (Zi := Zi) (q := q) (n := n) (D := D) (s := s106) (p := p) (c := c) (by omega) hz (by omega) hD hS106 hC hW108 A 0 (by omega) hx127) ?_
        rintro _ H1 (⟨s131, rfl, rfl, hS131, hW132, f133, k134, k135, k136⟩ | ⟨rfl, hY137, hn138⟩)
        rotate_left
        · exact tt_ax rfl (Or.inr ⟨rfl, cXp_mono (cXp_tr (fk_rf hD) (show fr s s106 [800, 801, 802, 803, 804, 805, 806, 807, 808, 809, 902, 1705, 1706, 2001, 2002, 2003, 2004, 2005, 2006, 2106, 2107, 2108, 2109, 2110, 2111, 2112, 2113, 2114, 2115, 2116] from (fr_tr (fr_tr (fr_tr (fr_tr (fr_tr fr_rf f14 (by decide)) f46 (by decide)) f68 (by decide)) f88 (by decide)) f109 (by decide))) ((frp_rf : frp p p []) 8 (by decide)) hY137 (by decide) (by decide)) (by omega), (fun h => by have h2 := rdB_gx (a := s 2001 + 6) (by rw [show s 2001 + 6 = s106 2001 by omega]; exact hn138); obtain ⟨_, _, ⟨h3, h4, h5, h6, h7, h8, h9⟩, _⟩ := h; omega)⟩)
        show tt Zi d 24 (112, [some (.inr (.inl 17)), some (.inr (.inl 25)), some (.inl r12), some (.inl r107), some (.inl r128)], [], n, D, s131, p, c) _
        replace k134 : rdB A ((s106 2001)) = some 0 := k134
        replace k135 : (s131 2001) = (s106 2001) + 1 := k135
        replace k136 : (s131 2001) ≤ (s106 601) := k136
        have b139 : 0 ≤ (s131 2001) ∧ (s131 2001) ≤ 100000 := hS131 2001
        have e140 : s131 601 = (s106 601) := (f133 601 (by decide))
        have b141 : 0 ≤ (s131 601) ∧ (s131 601) ≤ 32768 := hS131 601
        have e142 : s131 1705 = (s106 1705) := (f133 1705 (by decide))
        have b143 : 0 ≤ (s131 1705) ∧ (s131 1705) ≤ 1 := hS131 1705
        have e144 : s131 1706 = (s106 1706) := (f133 1706 (by decide))
        have b145 : 0 ≤ (s131 1706) ∧ (s131 1706) ≤ 3 := hS131 1706
        have e146 : s131 2502 = (s106 2502) := (f133 2502 (by decide))
        have b147 : 0 ≤ (s131 2502) ∧ (s131 2502) ≤ 3 := hS131 2502
        have e148 : s131 2503 = (s106 2503) := (f133 2503 (by decide))
        have b149 : 0 ≤ (s131 2503) ∧ (s131 2503) ≤ 16 := hS131 2503
        have hx150 : tpl A (s131 601) (c (p 600)) := by rw [f133 601 (by decide)]; exact hx127
        have hg6 : s 2001 + 6 < A.2 ∧ gB A (s 2001 + 6) = 0 := rdB_g (by rw [show s 2001 + 6 = s106 2001 by omega]; exact k134)
        refine tt_k 3 (S' := (117, [some (.inr (.inl 17)), some (.inr (.inl 25)), some (.inl r12), some (.inl r107), some (.inl r128)], [.inl 0, .inr (.inl 20)], n, D, s131, p, c)) rfl ?_
        refine tt_cl (by omega) rfl (e_expect (Zi := Zi) (q := q) (n := n) (D := D) (s := s131) (p := p) (c := c) (by omega) hz (by omega) hD hS131 hC hW132 A 0 (by omega) hx150) ?_
        rintro _ H1 (⟨s151, rfl, rfl, hS151, hW152, f153, k154, k155, k156⟩ | ⟨rfl, hY157, hn158⟩)
        rotate_left
        · exact tt_ax rfl (Or.inr ⟨rfl, cXp_mono (cXp_tr (fk_rf hD) (show fr s s131 [800, 801, 802, 803, 804, 805, 806, 807, 808, 809, 902, 1705, 1706, 2001, 2002, 2003, 2004, 2005, 2006, 2106, 2107, 2108, 2109, 2110, 2111, 2112, 2113, 2114, 2115, 2116] from (fr_tr (fr_tr (fr_tr (fr_tr (fr_tr (fr_tr fr_rf f14 (by decide)) f46 (by decide)) f68 (by decide)) f88 (by decide)) f109 (by decide)) f133 (by decide))) ((frp_rf : frp p p []) 8 (by decide)) hY157 (by decide) (by decide)) (by omega), (fun h => by have h2 := rdB_gx (a := s 2001 + 7) (by rw [show s 2001 + 7 = s131 2001 by omega]; exact hn158); obtain ⟨_, _, ⟨h3, h4, h5, h6, h7, h8, h9⟩, _⟩ := h; omega)⟩)
        show tt Zi d 24 (120, [some (.inr (.inl 17)), some (.inr (.inl 25)), some (.inl r12), some (.inl r107), some (.inl r128)], [], n, D, s151, p, c) _
        replace k154 : rdB A ((s131 2001)) = some 0 := k154
        replace k155 : (s151 2001) = (s131 2001) + 1 := k155
        replace k156 : (s151 2001) ≤ (s131 601) := k156
        have b159 : 0 ≤ (s151 2001) ∧ (s151 2001) ≤ 100000 := hS151 2001
        have e160 : s151 601 = (s131 601) := (f153 601 (by decide))
        have b161 : 0 ≤ (s151 601) ∧ (s151 601) ≤ 32768 := hS151 601
        have e162 : s151 1705 = (s131 1705) := (f153 1705 (by decide))
        have b163 : 0 ≤ (s151 1705) ∧ (s151 1705) ≤ 1 := hS151 1705
        have e164 : s151 1706 = (s131 1706) := (f153 1706 (by decide))
        have b165 : 0 ≤ (s151 1706) ∧ (s151 1706) ≤ 3 := hS151 1706
        have e166 : s151 2502 = (s131 2502) := (f153 2502 (by decide))
        have b167 : 0 ≤ (s151 2502) ∧ (s151 2502) ≤ 3 := hS151 2502
        have e168 : s151 2503 = (s131 2503) := (f153 2503 (by decide))
        have b169 : 0 ≤ (s151 2503) ∧ (s151 2503) ≤ 16 := hS151 2503
        have hx170 : tpl A (s151 601) (c (p 600)) := by rw [f153 601 (by decide)]; exact hx150
        have hg7 : s 2001 + 7 < A.2 ∧ gB A (s 2001 + 7) = 0 := rdB_g (by rw [show s 2001 + 7 = s131 2001 by omega]; exact k154)
        refine tt_k 7 (S' := (133, [some (.inr (.inl 17)), some (.inr (.inl 25)), some (.inl r12), some (.inl r107), some (.inl r128)], [.inl r107, .inl (s151 2503), .inr (.inl 18), .inr (.inl 8)], n, D, s151, p, c)) rfl ?_
        refine tt_cl (by omega) rfl (e_settle18 (Zi := Zi) (q := q) (n := n) (D := D) (s := s151) (p := p) (c := c) (by omega) hz (by omega) hD hS151 hC hW152 (s151 2503) r107 (by omega) (by omega)) ?_
        rintro _ _ ⟨s171, r172, rfl, rfl, hS171, hW173, f174, b175, k176⟩
        show tt Zi d 24 (136, [some (.inr (.inl 17)), some (.inr (.inl 25)), some (.inl r12), some (.inl r107), some (.inl r128)], [.inl r172], n, D, s171, p, c) _
        have b177 : 0 ≤ (s171 800) ∧ (s171 800) ≤ 65535 := hS171 800
        have b178 : -2147483648 ≤ (s171 801) ∧ (s171 801) ≤ 2147483647 := hS171 801
        have b179 : -2147483648 ≤ (s171 802) ∧ (s171 802) ≤ 2147483647 := hS171 802
        have b180 : -2147483648 ≤ (s171 803) ∧ (s171 803) ≤ 2147483647 := hS171 803
        have b181 : -2147483648 ≤ (s171 804) ∧ (s171 804) ≤ 2147483647 := hS171 804
        have b182 : 0 ≤ (s171 805) ∧ (s171 805) ≤ 65535 := hS171 805
        have b183 : 1 ≤ (s171 806) ∧ (s171 806) ≤ 511 := hS171 806
        have b184 : 0 ≤ (s171 807) ∧ (s171 807) ≤ 65536 := hS171 807
        have b185 : 0 ≤ (s171 808) ∧ (s171 808) ≤ 30 := hS171 808
        have b186 : 0 ≤ (s171 809) ∧ (s171 809) ≤ 64 := hS171 809
        have e187 : s171 601 = (s151 601) := (f174 601 (by decide))
        have b188 : 0 ≤ (s171 601) ∧ (s171 601) ≤ 32768 := hS171 601
        have e189 : s171 1705 = (s151 1705) := (f174 1705 (by decide))
        have b190 : 0 ≤ (s171 1705) ∧ (s171 1705) ≤ 1 := hS171 1705
        have e191 : s171 1706 = (s151 1706) := (f174 1706 (by decide))
        have b192 : 0 ≤ (s171 1706) ∧ (s171 1706) ≤ 3 := hS171 1706
        have e193 : s171 2502 = (s151 2502) := (f174 2502 (by decide))
        have b194 : 0 ≤ (s171 2502) ∧ (s171 2502) ≤ 3 := hS171 2502
        have e195 : s171 2503 = (s151 2503) := (f174 2503 (by decide))
        have b196 : 0 ≤ (s171 2503) ∧ (s171 2503) ≤ 16 := hS171 2503
        have e197 : s171 2001 = (s151 2001) := (f174 2001 (by decide))
        have b198 : 0 ≤ (s171 2001) ∧ (s171 2001) ≤ 100000 := hS171 2001
        have hx199 : tpl A (s171 601) (c (p 600)) := by rw [f174 601 (by decide)]; exact hx170
        have hst := k176
        refine tz_ne (x := r172) rfl rfl (by omega) (fun h200 => ?_) (fun h200 => ?_)
        · show tt Zi d 24 (150, [some (.inr (.inl 17)), some (.inr (.inl 25)), some (.inl r12), some (.inl r107), some (.inl r128)], [], n, D, s171, p, c) _
          exact tt_rtv rfl rfl (Or.inl ⟨s171, rfl, rfl, hS171, hW173, (fr_tr (fr_tr (fr_tr (fr_tr (fr_tr (fr_tr (fr_tr (fr_tr fr_rf f14 (by decide)) f46 (by decide)) f68 (by decide)) f88 (by decide)) f109 (by decide)) f133 (by decide)) f153 (by decide)) f174 (by decide)), by show s 1705 = 1 ∧ 1 ≤ s 1706; omega, ⟨by omega, by omega, by omega, by omega, by omega, by omega, by omega⟩, by show (s171 2001) = s 2001 + 8 ∧ (s171 2001) ≤ s 601; omega, hst.elim (fun q => by rw [hg5.2, show s 2503 = (s151 2503) by omega]; exact q.2.1) (fun q => by omega), hst.elim (fun q => by rw [hg5.2, show s 2503 = (s151 2503) by omega]; exact q.2.2) (fun q => by omega)⟩)
        · show tt Zi d 24 (139, [some (.inr (.inl 17)), some (.inr (.inl 25)), some (.inl r12), some (.inl r107), some (.inl r128)], [], n, D, s171, p, c) _
          refine tt_k 4 (S' := (147, [some (.inr (.inl 17)), some (.inr (.inl 25)), some (.inl r12), some (.inl r107), some (.inl r128)], [.inl r128, .inl 6, .inr (.inl 20)], n, D, s171, p, c)) rfl ?_
          refine tt_cl (by omega) rfl (e_refuse (Zi := Zi) (q := q) (n := n) (D := D) (s := s171) (p := p) (c := c) (by omega) hz (by omega) hD hS171 hC hW173 6 r128 (by omega) (by omega)) ?_
          rintro _ H1 (hF | ⟨rfl, hY201⟩)
          · exact hF.elim
          · exact tt_ax rfl (Or.inr ⟨rfl, cXp_mono (cXp_tr (fk_rf hD) (show fr s s171 [800, 801, 802, 803, 804, 805, 806, 807, 808, 809, 902, 1705, 1706, 2001, 2002, 2003, 2004, 2005, 2006, 2106, 2107, 2108, 2109, 2110, 2111, 2112, 2113, 2114, 2115, 2116] from (fr_tr (fr_tr (fr_tr (fr_tr (fr_tr (fr_tr (fr_tr (fr_tr fr_rf f14 (by decide)) f46 (by decide)) f68 (by decide)) f88 (by decide)) f109 (by decide)) f133 (by decide)) f153 (by decide)) f174 (by decide))) ((frp_rf : frp p p []) 8 (by decide)) hY201 (by decide) (by decide)) (by omega), (fun h => by have h9 := h.2.2.2; rw [hg5.2] at h9; exact hst.elim (fun q => by omega) (fun q => q.2 (by rw [show (s151 2503) = s 2503 by omega]; exact h9)))⟩)
      refine tb_ne (x := r12) (y := 8) rfl rfl (by omega) (fun h202 => ?_) (fun h202 => ?_)
      · show tt Zi d 24 (37, [some (.inr (.inl 17)), some (.inr (.inl 25)), some (.inl r12), none, none], [.inr (.inl 17)], n, D, s11, p, c) _
        refine tt_k 1 (S' := (38, [some (.inr (.inl 17)), some (.inr (.inl 25)), some (.inl r12), none, none], [.inl 0, .inr (.inl 17)], n, D, s11, p, c)) rfl ?_
        exact K34 0  (by omega) (by omega) (trivial)
      · show tt Zi d 24 (33, [some (.inr (.inl 17)), some (.inr (.inl 25)), some (.inl r12), none, none], [.inr (.inl 17)], n, D, s11, p, c) _
        refine tt_k 2 (S' := (38, [some (.inr (.inl 17)), some (.inr (.inl 25)), some (.inl r12), none, none], [.inl 1, .inr (.inl 17)], n, D, s11, p, c)) rfl ?_
        exact K34 1  (by omega) (by omega) (trivial)
    · show tt Zi d 24 (14, [some (.inr (.inl 17)), some (.inr (.inl 25)), none, none, none], [], n, D, s, p, c) _
      refine tt_k 1 (S' := (15, [some (.inr (.inl 17)), some (.inr (.inl 25)), none, none, none], [.inr (.inl 17)], n, D, s, p, c)) rfl ?_
      refine tt_cl (by omega) rfl (e_refuseMark (Zi := Zi) (q := q) (n := n) (D := D) (s := s) (p := p) (c := c) (by omega) hz (by omega) hD hS hC hW ) ?_
      rintro _ H1 (hF | ⟨rfl, hY203⟩)
      · exact hF.elim
      · exact tt_ax rfl (Or.inr ⟨rfl, cXp_mono (cXp_tr (fk_rf hD) (show fr s s [800, 801, 802, 803, 804, 805, 806, 807, 808, 809, 902, 1705, 1706, 2001, 2002, 2003, 2004, 2005, 2006, 2106, 2107, 2108, 2109, 2110, 2111, 2112, 2113, 2114, 2115, 2116] from fr_rf) ((frp_rf : frp p p []) 8 (by decide)) hY203 (by decide) (by decide)) (by omega), (fun h => by have h1 := h.1; have h2 := h.2.1; omega)⟩)
set_option maxRecDepth 100000 in
set_option maxHeartbeats 4000000 in
theorem e_readScan27 {g : Nat → Int} {Zi : Nat → Option (Nat × (Nat → Int))} {d n q : Nat} {D : Nat → Nat × Nat} {s : Nat → Int} {p : Nat → Nat} {c : Nat → Nat → Int} (hd : 6 ≤ d) (hz : zk Zi) (hq : q + 12 ≤ 400000) (hD : wd n p) (hS : bS s) (hC : bC D c) (hW : wp q g n D p s) (A : TN) (hp0 : tpl A (s 601) (c (p 600))) (hp1 : s 1705 = 1 → (1 ≤ s 2700 ∧ 2 ≤ s 2703 ∧ s 1706 ≤ s 2702)) : tt Zi d 24 (0, [some (.inr (.inl 17)), some (.inr (.inl 27)), none, none, none], [], n, D, s, p, c) (fun R H => (∃ (s' : Nat → Int), R = .inl none ∧ H = (n, D, s', p, c) ∧ bS s' ∧ wp q g n D p s' ∧ fr s s' [800, 801, 802, 803, 804, 805, 806, 807, 808, 809, 2001] ∧ (s 1705 = 1 ∧ 1 ≤ s 1706) ∧ (okS A (s 2001) (c 19 (s 2702 - s 1706).toNat)) ∧ (s' 2001 = s 2001 + 8 ∧ s' 2001 ≤ s 601) ∧ (VM (c 18 0) (c 18 1) (c 18 2) (c 18 3) (c 18 4) (s 2703) (gB A (s 2001 + 5))) ∧ (zq (ZM (c 18 0) (c 18 1) (c 18 2) (c 18 3) (c 18 4) (s 2703) (gB A (s 2001 + 5))) (s' 800) (s' 801) (s' 802) (s' 803) (s' 804) (s' 805) (s' 806) (s' 807) (s' 808) (s' 809))) ∨ (R = .inr 12 ∧ cXp ((q + 1)) g s p c [] [800, 801, 802, 803, 804, 805, 806, 807, 808, 809, 902, 1705, 1706, 2001, 2002, 2003, 2004, 2005, 2006, 2106, 2107, 2108, 2109, 2110, 2111, 2112, 2113, 2114, 2115, 2116] H ∧ (¬ (s 1705 = 1 ∧ 1 ≤ s 1706 ∧ (okS A (s 2001) (c 19 (s 2702 - s 1706).toNat)) ∧ VM (c 18 0) (c 18 1) (c 18 2) (c 18 3) (c 18 4) (s 2703) (gB A (s 2001 + 5)))))) := by
  have b1 : 0 ≤ (s 601) ∧ (s 601) ≤ 32768 := hS 601
  have b2 : 0 ≤ (s 2001) ∧ (s 2001) ≤ 100000 := hS 2001
  have hA := hp0.1
  have b3 : 0 ≤ (s 1705) ∧ (s 1705) ≤ 1 := hS 1705
  have b4 : 0 ≤ (s 1706) ∧ (s 1706) ≤ 3 := hS 1706
  have b5 : 0 ≤ (s 2702) ∧ (s 2702) ≤ 3 := hS 2702
  have b6 : 0 ≤ (s 2703) ∧ (s 2703) ≤ 16 := hS 2703
  have b7 : 0 ≤ (s 2700) ∧ (s 2700) ≤ 64 := hS 2700
  refine tt_k 2 (S' := (4, [some (.inr (.inl 17)), some (.inr (.inl 27)), none, none, none], [.inl (s 1705)], n, D, s, p, c)) rfl ?_
  refine tz_eq (x := (s 1705)) rfl rfl (by omega) (fun h8 => ?_) (fun h8 => ?_)
  · show tt Zi d 24 (14, [some (.inr (.inl 17)), some (.inr (.inl 27)), none, none, none], [], n, D, s, p, c) _
    refine tt_k 1 (S' := (15, [some (.inr (.inl 17)), some (.inr (.inl 27)), none, none, none], [.inr (.inl 17)], n, D, s, p, c)) rfl ?_
    refine tt_cl (by omega) rfl (e_refuseMark (Zi := Zi) (q := q) (n := n) (D := D) (s := s) (p := p) (c := c) (by omega) hz (by omega) hD hS hC hW ) ?_
    rintro _ H1 (hF | ⟨rfl, hY9⟩)
    · exact hF.elim
    · exact tt_ax rfl (Or.inr ⟨rfl, cXp_mono (cXp_tr (fk_rf hD) (show fr s s [800, 801, 802, 803, 804, 805, 806, 807, 808, 809, 902, 1705, 1706, 2001, 2002, 2003, 2004, 2005, 2006, 2106, 2107, 2108, 2109, 2110, 2111, 2112, 2113, 2114, 2115, 2116] from fr_rf) ((frp_rf : frp p p []) 8 (by decide)) hY9 (by decide) (by decide)) (by omega), (fun h => by have h1 := h.1; have h2 := h.2.1; omega)⟩)
  · show tt Zi d 24 (7, [some (.inr (.inl 17)), some (.inr (.inl 27)), none, none, none], [], n, D, s, p, c) _
    refine tt_k 2 (S' := (11, [some (.inr (.inl 17)), some (.inr (.inl 27)), none, none, none], [.inl (s 1706)], n, D, s, p, c)) rfl ?_
    refine tz_ne (x := (s 1706)) rfl rfl (by omega) (fun h10 => ?_) (fun h10 => ?_)
    · show tt Zi d 24 (18, [some (.inr (.inl 17)), some (.inr (.inl 27)), none, none, none], [], n, D, s, p, c) _
      refine tt_k 2 (S' := (22, [some (.inr (.inl 17)), some (.inr (.inl 27)), none, none, none], [.inr (.inl 20)], n, D, s, p, c)) rfl ?_
      refine tt_cl (by omega) rfl (e_readTwo (Zi := Zi) (q := q) (n := n) (D := D) (s := s) (p := p) (c := c) (by omega) hz (by omega) hD hS hC hW A hp0) ?_
      rintro _ H1 (⟨s11, r12, rfl, rfl, hS11, hW13, f14, b15, k16, k17, k18⟩ | ⟨rfl, hY19, hn20⟩)
      rotate_left
      · exact tt_ax rfl (Or.inr ⟨rfl, cXp_mono (cXp_tr (fk_rf hD) (show fr s s [800, 801, 802, 803, 804, 805, 806, 807, 808, 809, 902, 1705, 1706, 2001, 2002, 2003, 2004, 2005, 2006, 2106, 2107, 2108, 2109, 2110, 2111, 2112, 2113, 2114, 2115, 2116] from fr_rf) ((frp_rf : frp p p []) 8 (by decide)) hY19 (by decide) (by decide)) (by omega), (fun h => by have h2 := rdTwo_gn (a := s 2001) (by rw [show s 2001 = s 2001 by omega]; exact hn20); obtain ⟨_, _, ⟨h3, h4, h5, h6, h7, h8, h9⟩, _⟩ := h; omega)⟩)
      show tt Zi d 24 (25, [some (.inr (.inl 17)), some (.inr (.inl 27)), none, none, none], [.inl r12], n, D, s11, p, c) _
      replace k16 : rdTwo A ((s 2001)) = some r12 := k16
      replace k17 : (s11 2001) = (s 2001) + 2 := k17
      replace k18 : (s11 2001) ≤ (s 601) := k18
      have b21 : 0 ≤ (s11 2001) ∧ (s11 2001) ≤ 100000 := hS11 2001
      have e22 : s11 601 = (s 601) := (f14 601 (by decide))
      have b23 : 0 ≤ (s11 601) ∧ (s11 601) ≤ 32768 := hS11 601
      have e24 : s11 1705 = (s 1705) := (f14 1705 (by decide))
      have b25 : 0 ≤ (s11 1705) ∧ (s11 1705) ≤ 1 := hS11 1705
      have e26 : s11 1706 = (s 1706) := (f14 1706 (by decide))
      have b27 : 0 ≤ (s11 1706) ∧ (s11 1706) ≤ 3 := hS11 1706
      have e28 : s11 2702 = (s 2702) := (f14 2702 (by decide))
      have b29 : 0 ≤ (s11 2702) ∧ (s11 2702) ≤ 3 := hS11 2702
      have e30 : s11 2703 = (s 2703) := (f14 2703 (by decide))
      have b31 : 0 ≤ (s11 2703) ∧ (s11 2703) ≤ 16 := hS11 2703
      have hx32 : tpl A (s11 601) (c (p 600)) := by rw [f14 601 (by decide)]; exact hp0
      have hg0 : s 2001 + 1 < A.2 ∧ gT A (s 2001) = r12 := rdTwo_g (by rw [show s 2001 = s 2001 by omega]; exact k16)
      refine tt_k 4 (S' := (30, [some (.inr (.inl 17)), some (.inr (.inl 27)), some (.inl r12), none, none], [.inl 8, .inl r12, .inr (.inl 17)], n, D, s11, p, c)) rfl ?_
      have K34 : ∀ (j33 : Int) , (0 ≤ j33 ∧ j33 ≤ 1) → (j33 = 1 ↔ r12 = 8) → (True) → tt Zi d 24 (38, [some (.inr (.inl 17)), some (.inr (.inl 27)), some (.inl r12), none, none], [.inl j33, .inr (.inl 17)], n, D, s11, p, c) (fun R H => (∃ (s' : Nat → Int), R = .inl none ∧ H = (n, D, s', p, c) ∧ bS s' ∧ wp q g n D p s' ∧ fr s s' [800, 801, 802, 803, 804, 805, 806, 807, 808, 809, 2001] ∧ (s 1705 = 1 ∧ 1 ≤ s 1706) ∧ (okS A (s 2001) (c 19 (s 2702 - s 1706).toNat)) ∧ (s' 2001 = s 2001 + 8 ∧ s' 2001 ≤ s 601) ∧ (VM (c 18 0) (c 18 1) (c 18 2) (c 18 3) (c 18 4) (s 2703) (gB A (s 2001 + 5))) ∧ (zq (ZM (c 18 0) (c 18 1) (c 18 2) (c 18 3) (c 18 4) (s 2703) (gB A (s 2001 + 5))) (s' 800) (s' 801) (s' 802) (s' 803) (s' 804) (s' 805) (s' 806) (s' 807) (s' 808) (s' 809))) ∨ (R = .inr 12 ∧ cXp ((q + 1)) g s p c [] [800, 801, 802, 803, 804, 805, 806, 807, 808, 809, 902, 1705, 1706, 2001, 2002, 2003, 2004, 2005, 2006, 2106, 2107, 2108, 2109, 2110, 2111, 2112, 2113, 2114, 2115, 2116] H ∧ (¬ (s 1705 = 1 ∧ 1 ≤ s 1706 ∧ (okS A (s 2001) (c 19 (s 2702 - s 1706).toNat)) ∧ VM (c 18 0) (c 18 1) (c 18 2) (c 18 3) (c 18 4) (s 2703) (gB A (s 2001 + 5)))))) := by
        intro j33 b36 b37 hj35
        refine tt_k 2 (S' := (42, [some (.inr (.inl 17)), some (.inr (.inl 27)), some (.inl r12), none, none], [.inr (.inl 20), .inl j33, .inr (.inl 17)], n, D, s11, p, c)) rfl ?_
        refine tt_cl (by omega) rfl (g_openPlace (Zi := Zi) (q := q) (n := n) (D := D) (s := s11) (p := p) (c := c) (by omega) hz (by omega) hD hS11 hC hW13 ) ?_
        rintro _ _ ⟨r38, rfl, rfl, b39, k40⟩
        show tt Zi d 24 (45, [some (.inr (.inl 17)), some (.inr (.inl 27)), some (.inl r12), none, none], [.inl r38, .inl j33, .inr (.inl 17)], n, D, s11, p, c) _
        replace k40 : r38 = (s11 2001) - 1 := k40
        refine tt_k 2 (S' := (47, [some (.inr (.inl 17)), some (.inr (.inl 27)), some (.inl r12), none, none], [.inl (r38 - 1), .inl j33, .inr (.inl 17)], n, D, s11, p, c)) rfl ?_
        refine tt_cl (by omega) rfl (e_checkLength (Zi := Zi) (q := q) (n := n) (D := D) (s := s11) (p := p) (c := c) (by omega) hz (by omega) hD hS11 hC hW13 j33 (r38 - 1) (by omega) (by omega)) ?_
        rintro _ H1 (⟨rfl, rfl, k41⟩ | ⟨rfl, hY42, hn43⟩)
        rotate_left
        · exact tt_ax rfl (Or.inr ⟨rfl, cXp_mono (cXp_tr (fk_rf hD) (show fr s s11 [800, 801, 802, 803, 804, 805, 806, 807, 808, 809, 902, 1705, 1706, 2001, 2002, 2003, 2004, 2005, 2006, 2106, 2107, 2108, 2109, 2110, 2111, 2112, 2113, 2114, 2115, 2116] from (fr_tr fr_rf f14 (by decide))) ((frp_rf : frp p p []) 8 (by decide)) hY42 (by decide) (by decide)) (by omega), (fun h => by obtain ⟨_, _, ⟨h3, h4, h5, h6, h7, h8, h9⟩, _⟩ := h; omega)⟩)
        show tt Zi d 24 (50, [some (.inr (.inl 17)), some (.inr (.inl 27)), some (.inl r12), none, none], [], n, D, s11, p, c) _
        replace k41 : j33 = 1 := k41
        refine tt_k 3 (S' := (55, [some (.inr (.inl 17)), some (.inr (.inl 27)), some (.inl r12), none, none], [.inl 1, .inr (.inl 20)], n, D, s11, p, c)) rfl ?_
        refine tt_cl (by omega) rfl (e_expect (Zi := Zi) (q := q) (n := n) (D := D) (s := s11) (p := p) (c := c) (by omega) hz (by omega) hD hS11 hC hW13 A 1 (by omega) hx32) ?_
        rintro _ H1 (⟨s44, rfl, rfl, hS44, hW45, f46, k47, k48, k49⟩ | ⟨rfl, hY50, hn51⟩)
        rotate_left
        · exact tt_ax rfl (Or.inr ⟨rfl, cXp_mono (cXp_tr (fk_rf hD) (show fr s s11 [800, 801, 802, 803, 804, 805, 806, 807, 808, 809, 902, 1705, 1706, 2001, 2002, 2003, 2004, 2005, 2006, 2106, 2107, 2108, 2109, 2110, 2111, 2112, 2113, 2114, 2115, 2116] from (fr_tr fr_rf f14 (by decide))) ((frp_rf : frp p p []) 8 (by decide)) hY50 (by decide) (by decide)) (by omega), (fun h => by have h2 := rdB_gx (a := s 2001 + 2) (by rw [show s 2001 + 2 = s11 2001 by omega]; exact hn51); obtain ⟨_, _, ⟨h3, h4, h5, h6, h7, h8, h9⟩, _⟩ := h; omega)⟩)
        show tt Zi d 24 (58, [some (.inr (.inl 17)), some (.inr (.inl 27)), some (.inl r12), none, none], [], n, D, s44, p, c) _
        replace k47 : rdB A ((s11 2001)) = some 1 := k47
        replace k48 : (s44 2001) = (s11 2001) + 1 := k48
        replace k49 : (s44 2001) ≤ (s11 601) := k49
        have b52 : 0 ≤ (s44 2001) ∧ (s44 2001) ≤ 100000 := hS44 2001
        have e53 : s44 601 = (s11 601) := (f46 601 (by decide))
        have b54 : 0 ≤ (s44 601) ∧ (s44 601) ≤ 32768 := hS44 601
        have e55 : s44 1705 = (s11 1705) := (f46 1705 (by decide))
        have b56 : 0 ≤ (s44 1705) ∧ (s44 1705) ≤ 1 := hS44 1705
        have e57 : s44 1706 = (s11 1706) := (f46 1706 (by decide))
        have b58 : 0 ≤ (s44 1706) ∧ (s44 1706) ≤ 3 := hS44 1706
        have e59 : s44 2702 = (s11 2702) := (f46 2702 (by decide))
        have b60 : 0 ≤ (s44 2702) ∧ (s44 2702) ≤ 3 := hS44 2702
        have e61 : s44 2703 = (s11 2703) := (f46 2703 (by decide))
        have b62 : 0 ≤ (s44 2703) ∧ (s44 2703) ≤ 16 := hS44 2703
        have hx63 : tpl A (s44 601) (c (p 600)) := by rw [f46 601 (by decide)]; exact hx32
        have hg2 : s 2001 + 2 < A.2 ∧ gB A (s 2001 + 2) = 1 := rdB_g (by rw [show s 2001 + 2 = s11 2001 by omega]; exact k47)
        refine tt_k 9 (S' := (75, [some (.inr (.inl 17)), some (.inr (.inl 27)), some (.inl r12), none, none], [.inl ((s44 2702) - (s44 1706)), .inr (.inl 19), .inr (.inl 20)], n, D, s44, p, c)) rfl ?_
        refine tt_ilb (i := ((s44 2702) - (s44 1706))) (m := 3) (lo := -2147483648) (hi := 2147483647) rfl rfl (by omega) hC ⟨rfl, rfl⟩ ?_
        intro v64 b65 hvv64
        show tt Zi d 24 (76, [some (.inr (.inl 17)), some (.inr (.inl 27)), some (.inl r12), none, none], [.inl v64, .inr (.inl 20)], n, D, s44, p, c) _
        have hnv : (c 19 (s 2702 - s 1706).toNat) = v64 := by rw [← hvv64]; exact congrArg (fun z : Int => c 19 z.toNat) (by omega)
        refine tt_cl (by omega) rfl (e_expect (Zi := Zi) (q := q) (n := n) (D := D) (s := s44) (p := p) (c := c) (by omega) hz (by omega) hD hS44 hC hW45 A v64 (by omega) hx63) ?_
        rintro _ H1 (⟨s66, rfl, rfl, hS66, hW67, f68, k69, k70, k71⟩ | ⟨rfl, hY72, hn73⟩)
        rotate_left
        · exact tt_ax rfl (Or.inr ⟨rfl, cXp_mono (cXp_tr (fk_rf hD) (show fr s s44 [800, 801, 802, 803, 804, 805, 806, 807, 808, 809, 902, 1705, 1706, 2001, 2002, 2003, 2004, 2005, 2006, 2106, 2107, 2108, 2109, 2110, 2111, 2112, 2113, 2114, 2115, 2116] from (fr_tr (fr_tr fr_rf f14 (by decide)) f46 (by decide))) ((frp_rf : frp p p []) 8 (by decide)) hY72 (by decide) (by decide)) (by omega), (fun h => by have h2 := rdB_gx (a := s 2001 + 3) (by rw [show s 2001 + 3 = s44 2001 by omega]; exact hn73); obtain ⟨_, _, ⟨h3, h4, h5, h6, h7, h8, h9⟩, _⟩ := h; omega)⟩)
        show tt Zi d 24 (79, [some (.inr (.inl 17)), some (.inr (.inl 27)), some (.inl r12), none, none], [], n, D, s66, p, c) _
        replace k69 : rdB A ((s44 2001)) = some v64 := k69
        replace k70 : (s66 2001) = (s44 2001) + 1 := k70
        replace k71 : (s66 2001) ≤ (s44 601) := k71
        have b74 : 0 ≤ (s66 2001) ∧ (s66 2001) ≤ 100000 := hS66 2001
        have e75 : s66 601 = (s44 601) := (f68 601 (by decide))
        have b76 : 0 ≤ (s66 601) ∧ (s66 601) ≤ 32768 := hS66 601
        have e77 : s66 1705 = (s44 1705) := (f68 1705 (by decide))
        have b78 : 0 ≤ (s66 1705) ∧ (s66 1705) ≤ 1 := hS66 1705
        have e79 : s66 1706 = (s44 1706) := (f68 1706 (by decide))
        have b80 : 0 ≤ (s66 1706) ∧ (s66 1706) ≤ 3 := hS66 1706
        have e81 : s66 2702 = (s44 2702) := (f68 2702 (by decide))
        have b82 : 0 ≤ (s66 2702) ∧ (s66 2702) ≤ 3 := hS66 2702
        have e83 : s66 2703 = (s44 2703) := (f68 2703 (by decide))
        have b84 : 0 ≤ (s66 2703) ∧ (s66 2703) ≤ 16 := hS66 2703
        have hx85 : tpl A (s66 601) (c (p 600)) := by rw [f68 601 (by decide)]; exact hx63
        have hg3 : s 2001 + 3 < A.2 ∧ gB A (s 2001 + 3) = v64 := rdB_g (by rw [show s 2001 + 3 = s44 2001 by omega]; exact k69)
        refine tt_k 3 (S' := (84, [some (.inr (.inl 17)), some (.inr (.inl 27)), some (.inl r12), none, none], [.inl 0, .inr (.inl 20)], n, D, s66, p, c)) rfl ?_
        refine tt_cl (by omega) rfl (e_expect (Zi := Zi) (q := q) (n := n) (D := D) (s := s66) (p := p) (c := c) (by omega) hz (by omega) hD hS66 hC hW67 A 0 (by omega) hx85) ?_
        rintro _ H1 (⟨s86, rfl, rfl, hS86, hW87, f88, k89, k90, k91⟩ | ⟨rfl, hY92, hn93⟩)
        rotate_left
        · exact tt_ax rfl (Or.inr ⟨rfl, cXp_mono (cXp_tr (fk_rf hD) (show fr s s66 [800, 801, 802, 803, 804, 805, 806, 807, 808, 809, 902, 1705, 1706, 2001, 2002, 2003, 2004, 2005, 2006, 2106, 2107, 2108, 2109, 2110, 2111, 2112, 2113, 2114, 2115, 2116] from (fr_tr (fr_tr (fr_tr fr_rf f14 (by decide)) f46 (by decide)) f68 (by decide))) ((frp_rf : frp p p []) 8 (by decide)) hY92 (by decide) (by decide)) (by omega), (fun h => by have h2 := rdB_gx (a := s 2001 + 4) (by rw [show s 2001 + 4 = s66 2001 by omega]; exact hn93); obtain ⟨_, _, ⟨h3, h4, h5, h6, h7, h8, h9⟩, _⟩ := h; omega)⟩)
        show tt Zi d 24 (87, [some (.inr (.inl 17)), some (.inr (.inl 27)), some (.inl r12), none, none], [], n, D, s86, p, c) _
        replace k89 : rdB A ((s66 2001)) = some 0 := k89
        replace k90 : (s86 2001) = (s66 2001) + 1 := k90
        replace k91 : (s86 2001) ≤ (s66 601) := k91
        have b94 : 0 ≤ (s86 2001) ∧ (s86 2001) ≤ 100000 := hS86 2001
        have e95 : s86 601 = (s66 601) := (f88 601 (by decide))
        have b96 : 0 ≤ (s86 601) ∧ (s86 601) ≤ 32768 := hS86 601
        have e97 : s86 1705 = (s66 1705) := (f88 1705 (by decide))
        have b98 : 0 ≤ (s86 1705) ∧ (s86 1705) ≤ 1 := hS86 1705
        have e99 : s86 1706 = (s66 1706) := (f88 1706 (by decide))
        have b100 : 0 ≤ (s86 1706) ∧ (s86 1706) ≤ 3 := hS86 1706
        have e101 : s86 2702 = (s66 2702) := (f88 2702 (by decide))
        have b102 : 0 ≤ (s86 2702) ∧ (s86 2702) ≤ 3 := hS86 2702
        have e103 : s86 2703 = (s66 2703) := (f88 2703 (by decide))
        have b104 : 0 ≤ (s86 2703) ∧ (s86 2703) ≤ 16 := hS86 2703
        have hx105 : tpl A (s86 601) (c (p 600)) := by rw [f88 601 (by decide)]; exact hx85
        have hg4 : s 2001 + 4 < A.2 ∧ gB A (s 2001 + 4) = 0 := rdB_g (by rw [show s 2001 + 4 = s66 2001 by omega]; exact k89)
        refine tt_k 2 (S' := (91, [some (.inr (.inl 17)), some (.inr (.inl 27)), some (.inl r12), none, none], [.inr (.inl 20)], n, D, s86, p, c)) rfl ?_
        refine tt_cl (by omega) rfl (e_readByte (Zi := Zi) (q := q) (n := n) (D := D) (s := s86) (p := p) (c := c) (by omega) hz (by omega) hD hS86 hC hW87 A hx105) ?_
        rintro _ H1 (⟨s106, r107, rfl, rfl, hS106, hW108, f109, b110, k111, k112, k113⟩ | ⟨rfl, hY114, hn115⟩)
        rotate_left
        · exact tt_ax rfl (Or.inr ⟨rfl, cXp_mono (cXp_tr (fk_rf hD) (show fr s s86 [800, 801, 802, 803, 804, 805, 806, 807, 808, 809, 902, 1705, 1706, 2001, 2002, 2003, 2004, 2005, 2006, 2106, 2107, 2108, 2109, 2110, 2111, 2112, 2113, 2114, 2115, 2116] from (fr_tr (fr_tr (fr_tr (fr_tr fr_rf f14 (by decide)) f46 (by decide)) f68 (by decide)) f88 (by decide))) ((frp_rf : frp p p []) 8 (by decide)) hY114 (by decide) (by decide)) (by omega), (fun h => by have h2 := rdB_gn (a := s 2001 + 5) (by rw [show s 2001 + 5 = s86 2001 by omega]; exact hn115); obtain ⟨_, _, ⟨h3, h4, h5, h6, h7, h8, h9⟩, _⟩ := h; omega)⟩)
        show tt Zi d 24 (94, [some (.inr (.inl 17)), some (.inr (.inl 27)), some (.inl r12), none, none], [.inl r107], n, D, s106, p, c) _
        replace k111 : rdB A ((s86 2001)) = some r107 := k111
        replace k112 : (s106 2001) = (s86 2001) + 1 := k112
        replace k113 : (s106 2001) ≤ (s86 601) := k113
        have b116 : 0 ≤ (s106 2001) ∧ (s106 2001) ≤ 100000 := hS106 2001
        have e117 : s106 601 = (s86 601) := (f109 601 (by decide))
        have b118 : 0 ≤ (s106 601) ∧ (s106 601) ≤ 32768 := hS106 601
        have e119 : s106 1705 = (s86 1705) := (f109 1705 (by decide))
        have b120 : 0 ≤ (s106 1705) ∧ (s106 1705) ≤ 1 := hS106 1705
        have e121 : s106 1706 = (s86 1706) := (f109 1706 (by decide))
        have b122 : 0 ≤ (s106 1706) ∧ (s106 1706) ≤ 3 := hS106 1706
        have e123 : s106 2702 = (s86 2702) := (f109 2702 (by decide))
        have b124 : 0 ≤ (s106 2702) ∧ (s106 2702) ≤ 3 := hS106 2702
        have e125 : s106 2703 = (s86 2703) := (f109 2703 (by decide))
        have b126 : 0 ≤ (s106 2703) ∧ (s106 2703) ≤ 16 := hS106 2703
        have hx127 : tpl A (s106 601) (c (p 600)) := by rw [f109 601 (by decide)]; exact hx105
        have hg5 : s 2001 + 5 < A.2 ∧ gB A (s 2001 + 5) = r107 := rdB_g (by rw [show s 2001 + 5 = s86 2001 by omega]; exact k111)
        refine tt_k 3 (S' := (99, [some (.inr (.inl 17)), some (.inr (.inl 27)), some (.inl r12), some (.inl r107), none], [.inr (.inl 20)], n, D, s106, p, c)) rfl ?_
        refine tt_cl (by omega) rfl (g_openPlace (Zi := Zi) (q := q) (n := n) (D := D) (s := s106) (p := p) (c := c) (by omega) hz (by omega) hD hS106 hC hW108 ) ?_
        rintro _ _ ⟨r128, rfl, rfl, b129, k130⟩
        show tt Zi d 24 (102, [some (.inr (.inl 17)), some (.inr (.inl 27)), some (.inl r12), some (.inl r107), none], [.inl r128], n, D, s106, p, c) _
        replace k130 : r128 = (s106 2001) - 1 := k130
        refine tt_k 4 (S' := (109, [some (.inr (.inl 17)), some (.inr (.inl 27)), some (.inl r12), some (.inl r107), some (.inl r128)], [.inl 0, .inr (.inl 20)], n, D, s106, p, c)) rfl ?_
        refine tt_cl (by omega) rfl (e_expect (Zi := Zi) (q := q) (n := n) (D := D) (s := s106) (p := p) (c := c) (by omega) hz (by omega) hD hS106 hC hW108 A 0 (by omega) hx127) ?_
        rintro _ H1 (⟨s131, rfl, rfl, hS131, hW132, f133, k134, k135, k136⟩ | ⟨rfl, hY137, hn138⟩)
        rotate_left
        · exact tt_ax rfl (Or.inr ⟨rfl, cXp_mono (cXp_tr (fk_rf hD) (show fr s s106 [800, 801, 802, 803, 804, 805, 806, 807, 808, 809, 902, 1705, 1706, 2001, 2002, 2003, 2004, 2005, 2006, 2106, 2107, 2108, 2109, 2110, 2111, 2112, 2113, 2114, 2115, 2116] from (fr_tr (fr_tr (fr_tr (fr_tr (fr_tr fr_rf f14 (by decide)) f46 (by decide)) f68 (by decide)) f88 (by decide)) f109 (by decide))) ((frp_rf : frp p p []) 8 (by decide)) hY137 (by decide) (by decide)) (by omega), (fun h => by have h2 := rdB_gx (a := s 2001 + 6) (by rw [show s 2001 + 6 = s106 2001 by omega]; exact hn138); obtain ⟨_, _, ⟨h3, h4, h5, h6, h7, h8, h9⟩, _⟩ := h; omega)⟩)
        show tt Zi d 24 (112, [some (.inr (.inl 17)), some (.inr (.inl 27)), some (.inl r12), some (.inl r107), some (.inl r128)], [], n, D, s131, p, c) _
        replace k134 : rdB A ((s106 2001)) = some 0 := k134
        replace k135 : (s131 2001) = (s106 2001) + 1 := k135
        replace k136 : (s131 2001) ≤ (s106 601) := k136
        have b139 : 0 ≤ (s131 2001) ∧ (s131 2001) ≤ 100000 := hS131 2001
        have e140 : s131 601 = (s106 601) := (f133 601 (by decide))
        have b141 : 0 ≤ (s131 601) ∧ (s131 601) ≤ 32768 := hS131 601
        have e142 : s131 1705 = (s106 1705) := (f133 1705 (by decide))
        have b143 : 0 ≤ (s131 1705) ∧ (s131 1705) ≤ 1 := hS131 1705
        have e144 : s131 1706 = (s106 1706) := (f133 1706 (by decide))
        have b145 : 0 ≤ (s131 1706) ∧ (s131 1706) ≤ 3 := hS131 1706
        have e146 : s131 2702 = (s106 2702) := (f133 2702 (by decide))
        have b147 : 0 ≤ (s131 2702) ∧ (s131 2702) ≤ 3 := hS131 2702
        have e148 : s131 2703 = (s106 2703) := (f133 2703 (by decide))
        have b149 : 0 ≤ (s131 2703) ∧ (s131 2703) ≤ 16 := hS131 2703
        have hx150 : tpl A (s131 601) (c (p 600)) := by rw [f133 601 (by decide)]; exact hx127
        have hg6 : s 2001 + 6 < A.2 ∧ gB A (s 2001 + 6) = 0 := rdB_g (by rw [show s 2001 + 6 = s106 2001 by omega]; exact k134)
        refine tt_k 3 (S' := (117, [some (.inr (.inl 17)), some (.inr (.inl 27)), some (.inl r12), some (.inl r107), some (.inl r128)], [.inl 0, .inr (.inl 20)], n, D, s131, p, c)) rfl ?_
        refine tt_cl (by omega) rfl (e_expect (Zi := Zi) (q := q) (n := n) (D := D) (s := s131) (p := p) (c := c) (by omega) hz (by omega) hD hS131 hC hW132 A 0 (by omega) hx150) ?_
        rintro _ H1 (⟨s151, rfl, rfl, hS151, hW152, f153, k154, k155, k156⟩ | ⟨rfl, hY157, hn158⟩)
        rotate_left
        · exact tt_ax rfl (Or.inr ⟨rfl, cXp_mono (cXp_tr (fk_rf hD) (show fr s s131 [800, 801, 802, 803, 804, 805, 806, 807, 808, 809, 902, 1705, 1706, 2001, 2002, 2003, 2004, 2005, 2006, 2106, 2107, 2108, 2109, 2110, 2111, 2112, 2113, 2114, 2115, 2116] from (fr_tr (fr_tr (fr_tr (fr_tr (fr_tr (fr_tr fr_rf f14 (by decide)) f46 (by decide)) f68 (by decide)) f88 (by decide)) f109 (by decide)) f133 (by decide))) ((frp_rf : frp p p []) 8 (by decide)) hY157 (by decide) (by decide)) (by omega), (fun h => by have h2 := rdB_gx (a := s 2001 + 7) (by rw [show s 2001 + 7 = s131 2001 by omega]; exact hn158); obtain ⟨_, _, ⟨h3, h4, h5, h6, h7, h8, h9⟩, _⟩ := h; omega)⟩)
        show tt Zi d 24 (120, [some (.inr (.inl 17)), some (.inr (.inl 27)), some (.inl r12), some (.inl r107), some (.inl r128)], [], n, D, s151, p, c) _
        replace k154 : rdB A ((s131 2001)) = some 0 := k154
        replace k155 : (s151 2001) = (s131 2001) + 1 := k155
        replace k156 : (s151 2001) ≤ (s131 601) := k156
        have b159 : 0 ≤ (s151 2001) ∧ (s151 2001) ≤ 100000 := hS151 2001
        have e160 : s151 601 = (s131 601) := (f153 601 (by decide))
        have b161 : 0 ≤ (s151 601) ∧ (s151 601) ≤ 32768 := hS151 601
        have e162 : s151 1705 = (s131 1705) := (f153 1705 (by decide))
        have b163 : 0 ≤ (s151 1705) ∧ (s151 1705) ≤ 1 := hS151 1705
        have e164 : s151 1706 = (s131 1706) := (f153 1706 (by decide))
        have b165 : 0 ≤ (s151 1706) ∧ (s151 1706) ≤ 3 := hS151 1706
        have e166 : s151 2702 = (s131 2702) := (f153 2702 (by decide))
        have b167 : 0 ≤ (s151 2702) ∧ (s151 2702) ≤ 3 := hS151 2702
        have e168 : s151 2703 = (s131 2703) := (f153 2703 (by decide))
        have b169 : 0 ≤ (s151 2703) ∧ (s151 2703) ≤ 16 := hS151 2703
        have hx170 : tpl A (s151 601) (c (p 600)) := by rw [f153 601 (by decide)]; exact hx150
        have hg7 : s 2001 + 7 < A.2 ∧ gB A (s 2001 + 7) = 0 := rdB_g (by rw [show s 2001 + 7 = s131 2001 by omega]; exact k154)
        refine tt_k 7 (S' := (133, [some (.inr (.inl 17)), some (.inr (.inl 27)), some (.inl r12), some (.inl r107), some (.inl r128)], [.inl r107, .inl (s151 2703), .inr (.inl 18), .inr (.inl 8)], n, D, s151, p, c)) rfl ?_
        refine tt_cl (by omega) rfl (e_settle18 (Zi := Zi) (q := q) (n := n) (D := D) (s := s151) (p := p) (c := c) (by omega) hz (by omega) hD hS151 hC hW152 (s151 2703) r107 (by omega) (by omega)) ?_
        rintro _ _ ⟨s171, r172, rfl, rfl, hS171, hW173, f174, b175, k176⟩
        show tt Zi d 24 (136, [some (.inr (.inl 17)), some (.inr (.inl 27)), some (.inl r12), some (.inl r107), some (.inl r128)], [.inl r172], n, D, s171, p, c) _
        have b177 : 0 ≤ (s171 800) ∧ (s171 800) ≤ 65535 := hS171 800
        have b178 : -2147483648 ≤ (s171 801) ∧ (s171 801) ≤ 2147483647 := hS171 801
        have b179 : -2147483648 ≤ (s171 802) ∧ (s171 802) ≤ 2147483647 := hS171 802
        have b180 : -2147483648 ≤ (s171 803) ∧ (s171 803) ≤ 2147483647 := hS171 803
        have b181 : -2147483648 ≤ (s171 804) ∧ (s171 804) ≤ 2147483647 := hS171 804
        have b182 : 0 ≤ (s171 805) ∧ (s171 805) ≤ 65535 := hS171 805
        have b183 : 1 ≤ (s171 806) ∧ (s171 806) ≤ 511 := hS171 806
        have b184 : 0 ≤ (s171 807) ∧ (s171 807) ≤ 65536 := hS171 807
        have b185 : 0 ≤ (s171 808) ∧ (s171 808) ≤ 30 := hS171 808
        have b186 : 0 ≤ (s171 809) ∧ (s171 809) ≤ 64 := hS171 809
        have e187 : s171 601 = (s151 601) := (f174 601 (by decide))
        have b188 : 0 ≤ (s171 601) ∧ (s171 601) ≤ 32768 := hS171 601
        have e189 : s171 1705 = (s151 1705) := (f174 1705 (by decide))
        have b190 : 0 ≤ (s171 1705) ∧ (s171 1705) ≤ 1 := hS171 1705
        have e191 : s171 1706 = (s151 1706) := (f174 1706 (by decide))
        have b192 : 0 ≤ (s171 1706) ∧ (s171 1706) ≤ 3 := hS171 1706
        have e193 : s171 2702 = (s151 2702) := (f174 2702 (by decide))
        have b194 : 0 ≤ (s171 2702) ∧ (s171 2702) ≤ 3 := hS171 2702
        have e195 : s171 2703 = (s151 2703) := (f174 2703 (by decide))
        have b196 : 0 ≤ (s171 2703) ∧ (s171 2703) ≤ 16 := hS171 2703
        have e197 : s171 2001 = (s151 2001) := (f174 2001 (by decide))
        have b198 : 0 ≤ (s171 2001) ∧ (s171 2001) ≤ 100000 := hS171 2001
        have hx199 : tpl A (s171 601) (c (p 600)) := by rw [f174 601 (by decide)]; exact hx170
        have hst := k176
        refine tz_ne (x := r172) rfl rfl (by omega) (fun h200 => ?_) (fun h200 => ?_)
        · show tt Zi d 24 (150, [some (.inr (.inl 17)), some (.inr (.inl 27)), some (.inl r12), some (.inl r107), some (.inl r128)], [], n, D, s171, p, c) _
          exact tt_rtv rfl rfl (Or.inl ⟨s171, rfl, rfl, hS171, hW173, (fr_tr (fr_tr (fr_tr (fr_tr (fr_tr (fr_tr (fr_tr (fr_tr fr_rf f14 (by decide)) f46 (by decide)) f68 (by decide)) f88 (by decide)) f109 (by decide)) f133 (by decide)) f153 (by decide)) f174 (by decide)), by show s 1705 = 1 ∧ 1 ≤ s 1706; omega, ⟨by omega, by omega, by omega, by omega, by omega, by omega, by omega⟩, by show (s171 2001) = s 2001 + 8 ∧ (s171 2001) ≤ s 601; omega, hst.elim (fun q => by rw [hg5.2, show s 2703 = (s151 2703) by omega]; exact q.2.1) (fun q => by omega), hst.elim (fun q => by rw [hg5.2, show s 2703 = (s151 2703) by omega]; exact q.2.2) (fun q => by omega)⟩)
        · show tt Zi d 24 (139, [some (.inr (.inl 17)), some (.inr (.inl 27)), some (.inl r12), some (.inl r107), some (.inl r128)], [], n, D, s171, p, c) _
          refine tt_k 4 (S' := (147, [some (.inr (.inl 17)), some (.inr (.inl 27)), some (.inl r12), some (.inl r107), some (.inl r128)], [.inl r128, .inl 6, .inr (.inl 20)], n, D, s171, p, c)) rfl ?_
          refine tt_cl (by omega) rfl (e_refuse (Zi := Zi) (q := q) (n := n) (D := D) (s := s171) (p := p) (c := c) (by omega) hz (by omega) hD hS171 hC hW173 6 r128 (by omega) (by omega)) ?_
          rintro _ H1 (hF | ⟨rfl, hY201⟩)
          · exact hF.elim
          · exact tt_ax rfl (Or.inr ⟨rfl, cXp_mono (cXp_tr (fk_rf hD) (show fr s s171 [800, 801, 802, 803, 804, 805, 806, 807, 808, 809, 902, 1705, 1706, 2001, 2002, 2003, 2004, 2005, 2006, 2106, 2107, 2108, 2109, 2110, 2111, 2112, 2113, 2114, 2115, 2116] from (fr_tr (fr_tr (fr_tr (fr_tr (fr_tr (fr_tr (fr_tr (fr_tr fr_rf f14 (by decide)) f46 (by decide)) f68 (by decide)) f88 (by decide)) f109 (by decide)) f133 (by decide)) f153 (by decide)) f174 (by decide))) ((frp_rf : frp p p []) 8 (by decide)) hY201 (by decide) (by decide)) (by omega), (fun h => by have h9 := h.2.2.2; rw [hg5.2] at h9; exact hst.elim (fun q => by omega) (fun q => q.2 (by rw [show (s151 2703) = s 2703 by omega]; exact h9)))⟩)
      refine tb_ne (x := r12) (y := 8) rfl rfl (by omega) (fun h202 => ?_) (fun h202 => ?_)
      · show tt Zi d 24 (37, [some (.inr (.inl 17)), some (.inr (.inl 27)), some (.inl r12), none, none], [.inr (.inl 17)], n, D, s11, p, c) _
        refine tt_k 1 (S' := (38, [some (.inr (.inl 17)), some (.inr (.inl 27)), some (.inl r12), none, none], [.inl 0, .inr (.inl 17)], n, D, s11, p, c)) rfl ?_
        exact K34 0  (by omega) (by omega) (trivial)
      · show tt Zi d 24 (33, [some (.inr (.inl 17)), some (.inr (.inl 27)), some (.inl r12), none, none], [.inr (.inl 17)], n, D, s11, p, c) _
        refine tt_k 2 (S' := (38, [some (.inr (.inl 17)), some (.inr (.inl 27)), some (.inl r12), none, none], [.inl 1, .inr (.inl 17)], n, D, s11, p, c)) rfl ?_
        exact K34 1  (by omega) (by omega) (trivial)
    · show tt Zi d 24 (14, [some (.inr (.inl 17)), some (.inr (.inl 27)), none, none, none], [], n, D, s, p, c) _
      refine tt_k 1 (S' := (15, [some (.inr (.inl 17)), some (.inr (.inl 27)), none, none, none], [.inr (.inl 17)], n, D, s, p, c)) rfl ?_
      refine tt_cl (by omega) rfl (e_refuseMark (Zi := Zi) (q := q) (n := n) (D := D) (s := s) (p := p) (c := c) (by omega) hz (by omega) hD hS hC hW ) ?_
      rintro _ H1 (hF | ⟨rfl, hY203⟩)
      · exact hF.elim
      · exact tt_ax rfl (Or.inr ⟨rfl, cXp_mono (cXp_tr (fk_rf hD) (show fr s s [800, 801, 802, 803, 804, 805, 806, 807, 808, 809, 902, 1705, 1706, 2001, 2002, 2003, 2004, 2005, 2006, 2106, 2107, 2108, 2109, 2110, 2111, 2112, 2113, 2114, 2115, 2116] from fr_rf) ((frp_rf : frp p p []) 8 (by decide)) hY203 (by decide) (by decide)) (by omega), (fun h => by have h1 := h.1; have h2 := h.2.1; omega)⟩)
