/-! the class unpacks, exactly -/
/-- the picture that is shown is so -/
def pcE (s : Nat → Int) (p : Nat → Nat) (c : Nat → Nat → Int) (S : SR) : Prop := rwE (s (100 * p 8)) (s (100 * p 8 + 1)) (s (100 * p 8 + 2)) (s (100 * p 8 + 3)) (c (p (100 * p 8 + 4))) S
/-- it is the same -/
def pcS (s : Nat → Int) (p : Nat → Nat) (c : Nat → Nat → Int) (s' : Nat → Int) (p' : Nat → Nat) (c' : Nat → Nat → Int) : Prop := p' 8 = p 8 ∧ s' 10 = s 10 ∧ (s' (100 * p 8) = s (100 * p 8) ∧ s' (100 * p 8 + 1) = s (100 * p 8 + 1) ∧ s' (100 * p 8 + 2) = s (100 * p 8 + 2) ∧ s' (100 * p 8 + 3) = s (100 * p 8 + 3)) ∧ c' (p' (100 * p 8 + 4)) = c (p (100 * p 8 + 4))
def abV (i : Int) (s : Nat → Int) (p : Nat → Nat) : Int := if i = 0 then s (100 * p 8) else if i = 1 then s (100 * p 8 + 1) else if i = 2 then s (100 * p 8 + 2) else s (100 * p 8 + 3)
set_option maxRecDepth 100000 in
set_option maxHeartbeats 4000000 in
theorem e_unpack {g : Nat → Int} {Zi : Nat → Option (Nat × (Nat → Int))} {d n q : Nat} {D : Nat → Nat × Nat} {s : Nat → Int} {p : Nat → Nat} {c : Nat → Nat → Int} (hd : 10 ≤ d) (hz : zk Zi) (hq : q + 20 ≤ 400000) (hD : wd n p) (hS : bS s) (hC : bC D c) (hW : wp q g n D p s) (A : TN) (K0 : MT) (hp0 : tpl A (s 601) (c (p 600))) (hp1 : mrk K0 (c (p 900))) : tt Zi d 15 (0, [some (.inr (.inl 0)), none], [], n, D, s, p, c) (fun R H => (∃ r : Int, R = .inl (some (.inl r)) ∧ (0 ≤ r ∧ r ≤ 8) ∧ cX (q + 1) g s p c [18, 19, 900, 901, 2103, 2104, 2504, 2704] [10, 11, 800, 801, 802, 803, 804, 805, 806, 807, 808, 809, 902, 1705, 1706, 2001, 2002, 2003, 2004, 2005, 2006, 2106, 2107, 2108, 2109, 2110, 2111, 2112, 2113, 2114, 2115, 2116, 2500, 2501, 2502, 2503, 2700, 2701, 2702, 2703] H ∧ ((H.2.2.1 10 = 1 ∧ ∃ S, rowR A K0 = (some S, S.2.2.2.2.2.1) ∧ mrk S.2.2.2.2.2.1 (H.2.2.2.2 (H.2.2.2.1 900)) ∧ pcE H.2.2.1 H.2.2.2.1 H.2.2.2.2 S) ∨ ((∃ K, rowR A K0 = (none, K) ∧ mrk K (H.2.2.2.2 (H.2.2.2.1 900))) ∧ pcS s p c H.2.2.1 H.2.2.2.1 H.2.2.2.2)))) := by
  rcases (hW).pp with ⟨hp8, hp9⟩ | ⟨hp8, hp9⟩
  · skip
    refine tt_k 4 (S' := (8, [some (.inr (.inl 0)), none], [.inr (.inl (p 9)), .inr (.inl 17)], n, D, s, p, c)) rfl ?_
    rw [hp9]
    show tt Zi d 15 (8, [some (.inr (.inl 0)), none], [.inr (.inl 27), .inr (.inl 17)], n, D, s, p, c) _
    have b1 : 0 ≤ (s 601) ∧ (s 601) ≤ 32768 := hS 601
    refine tt_cl (by omega) rfl (e_readRow27 (Zi := Zi) (q := q) (n := n) (D := D) (s := s) (p := p) (c := c) (by omega) hz (by omega) hD hS hC hW A K0 hp0 hp1) ?_
    rintro _ H1 (⟨n2, D3, s4, p5, c6, rfl, rfl, hS4, hC6, hW7, f8, g9, xe10, kf11, k12⟩ | ⟨rfl, hY13, hn14⟩)
    rotate_left
    · obtain ⟨n15, D16, s17, p18, c19⟩ := H1
      obtain ⟨hS17, hC19, hW18, FKp18, Fxs17⟩ : cX _ g s p c [18, 19, 900, 901, 2103, 2104, 2504, 2704] LXR _ := (cX_trl (fk_rf hD) (show fr s s LXR from fr_rf) (hY13).1 (by decide) (by decide))
      have hS17 : bS s17 := hS17
      have hC19 : bC D16 c19 := hC19
      have hW18 : wp _ _ n15 D16 p18 s17 := hW18
      have Fxs17 : fr s s17 LXR := Fxs17
      show tt Zi d 15 (14, [some (.inr (.inl 0)), none], [.inr (.inl (47 + n15))], n15, D16, s17, p18, c19) _
      refine tt_k 11 (S' := (39, [some (.inr (.inl 0)), some (.inr (.inl (47 + n15)))], [.inl (s17 2005)], n15, D16, (us s17 11 (s17 2006)), p18, c19)) rfl ?_
      have b20 : 0 ≤ (s17 2005) ∧ (s17 2005) ≤ 8 := hS17 2005
      have b21 : -1 ≤ (s17 2006) ∧ (s17 2006) ≤ 100000 := hS17 2006
      exact tt_rti rfl rfl ⟨(s17 2005), rfl, by omega, cX_mono (q := (q + 1)) (show cX (q + 1) g s p c [18, 19, 900, 901, 2103, 2104, 2504, 2704] [10, 11, 800, 801, 802, 803, 804, 805, 806, 807, 808, 809, 902, 1705, 1706, 2001, 2002, 2003, 2004, 2005, 2006, 2106, 2107, 2108, 2109, 2110, 2111, 2112, 2113, 2114, 2115, 2116, 2500, 2501, 2502, 2503, 2700, 2701, 2702, 2703] (n15, D16, (us s17 11 (s17 2006)), p18, c19) from ⟨(bS_us hS17 (show -1 ≤ (s17 2006) ∧ (s17 2006) ≤ 100000 by omega)), hC19, (wp_us (by decide) hW18), FKp18, (show fr s (us s17 11 (s17 2006)) [10, 11, 800, 801, 802, 803, 804, 805, 806, 807, 808, 809, 902, 1705, 1706, 2001, 2002, 2003, 2004, 2005, 2006, 2106, 2107, 2108, 2109, 2110, 2111, 2112, 2113, 2114, 2115, 2116, 2500, 2501, 2502, 2503, 2700, 2701, 2702, 2703] from (fr_us (by decide) (fr_wk Fxs17 (by decide))))⟩) (by omega), by exact Or.inr ⟨hn14, by show pcS s p c (us s17 11 (s17 2006)) p18 c19; unfold pcS; rw [hp8]; exact ⟨(hY13).2.trans hp8, (hY13).1.2.2.2.2 10 (by decide), ⟨(hY13).1.2.2.2.2 2500 (by decide), (hY13).1.2.2.2.2 2501 (by decide), (hY13).1.2.2.2.2 2502 (by decide), (hY13).1.2.2.2.2 2503 (by decide)⟩, fk_k (k := 2504) (hY13).1.2.2.2.1 (by decide)⟩⟩⟩
    have FK22 : fk p c n2 p5 c6 [18, 19, 900, 901, 2103, 2104, 2504, 2704] := fk_tr (fk_rf hD) kf11 (by decide)
    show tt Zi d 15 (11, [some (.inr (.inl 0)), none], [], n2, D3, s4, p5, c6) _
    have b23 : 0 ≤ (s4 2700) ∧ (s4 2700) ≤ 64 := hS4 2700
    have b24 : 0 ≤ (s4 2701) ∧ (s4 2701) ≤ 64 := hS4 2701
    have b25 : 0 ≤ (s4 2702) ∧ (s4 2702) ≤ 3 := hS4 2702
    have b26 : 0 ≤ (s4 2703) ∧ (s4 2703) ≤ 16 := hS4 2703
    have hx27 : tpl A (s4 601) (c6 (p5 600)) := by rw [f8 601 (by decide), fk_k (k := 600) kf11 (by decide)]; exact hp0
    have hp8x : p5 8 = 25 := (g9 8 (by decide)).trans hp8
    have hp9x : p5 9 = 27 := (g9 9 (by decide)).trans hp9
    obtain ⟨S, u1, u2, u3⟩ := k12
    refine tt_k 3 (S' := (44, [some (.inr (.inl 0)), none], [.inr (.inl (p5 8))], n2, D3, s4, p5, c6)) rfl ?_
    rw [hp8x]
    show tt Zi d 15 (44, [some (.inr (.inl 0)), none], [.inr (.inl 25)], n2, D3, s4, p5, c6) _
    refine tt_k 4 (S' := (50, [some (.inr (.inl 0)), some (.inr (.inl 25))], [.inr (.inl (p5 9)), .inr (.inl 0)], n2, D3, s4, p5, c6)) rfl ?_
    rw [hp9x]
    show tt Zi d 15 (50, [some (.inr (.inl 0)), some (.inr (.inl 25))], [.inr (.inl 27), .inr (.inl 0)], n2, D3, s4, p5, c6) _
    refine tt_k 11 (S' := (69, [some (.inr (.inl 0)), some (.inr (.inl 25))], [.inl 0], n2, D3, (us (us s4 10 1) 11 (-1)), (up (up p5 8 27) 9 25), c6)) rfl ?_
    exact tt_rti rfl rfl ⟨0, rfl, by omega, cX_mono (q := q) (show cX q g s p c [18, 19, 900, 901, 2103, 2104, 2504, 2704] [10, 11, 800, 801, 802, 803, 804, 805, 806, 807, 808, 809, 902, 1705, 1706, 2001, 2002, 2003, 2004, 2005, 2006, 2106, 2107, 2108, 2109, 2110, 2111, 2112, 2113, 2114, 2115, 2116, 2500, 2501, 2502, 2503, 2700, 2701, 2702, 2703] (n2, D3, (us (us s4 10 1) 11 (-1)), (up (up p5 8 27) 9 25), c6) from ⟨(bS_us (bS_us hS4 (show 0 ≤ 1 ∧ 1 ≤ 1 by omega)) (show -1 ≤ (-1) ∧ (-1) ≤ 100000 by omega)), hC6, (wp_us (by decide) (wp_us (by decide) (wp_pp1 hW7))), (fk_up (by decide) (fk_up (by decide) FK22)), (show fr s (us (us s4 10 1) 11 (-1)) [10, 11, 800, 801, 802, 803, 804, 805, 806, 807, 808, 809, 902, 1705, 1706, 2001, 2002, 2003, 2004, 2005, 2006, 2106, 2107, 2108, 2109, 2110, 2111, 2112, 2113, 2114, 2115, 2116, 2500, 2501, 2502, 2503, 2700, 2701, 2702, 2703] from (fr_us (by decide) (fr_us (by decide) (fr_tr fr_rf f8 (by decide)))))⟩) (by omega), by exact Or.inl ⟨rfl, S, u1, u2, by show rwE (s4 2700) (s4 2701) (s4 2702) (s4 2703) (c6 (p5 2704)) S; exact u3⟩⟩
  · skip
    refine tt_k 4 (S' := (8, [some (.inr (.inl 0)), none], [.inr (.inl (p 9)), .inr (.inl 17)], n, D, s, p, c)) rfl ?_
    rw [hp9]
    show tt Zi d 15 (8, [some (.inr (.inl 0)), none], [.inr (.inl 25), .inr (.inl 17)], n, D, s, p, c) _
    have b28 : 0 ≤ (s 601) ∧ (s 601) ≤ 32768 := hS 601
    refine tt_cl (by omega) rfl (e_readRow25 (Zi := Zi) (q := q) (n := n) (D := D) (s := s) (p := p) (c := c) (by omega) hz (by omega) hD hS hC hW A K0 hp0 hp1) ?_
    rintro _ H1 (⟨n29, D30, s31, p32, c33, rfl, rfl, hS31, hC33, hW34, f35, g36, xe37, kf38, k39⟩ | ⟨rfl, hY40, hn41⟩)
    rotate_left
    · obtain ⟨n42, D43, s44, p45, c46⟩ := H1
      obtain ⟨hS44, hC46, hW45, FKp45, Fxs44⟩ : cX _ g s p c [18, 19, 900, 901, 2103, 2104, 2504, 2704] LXR _ := (cX_trl (fk_rf hD) (show fr s s LXR from fr_rf) (hY40).1 (by decide) (by decide))
      have hS44 : bS s44 := hS44
      have hC46 : bC D43 c46 := hC46
      have hW45 : wp _ _ n42 D43 p45 s44 := hW45
      have Fxs44 : fr s s44 LXR := Fxs44
      show tt Zi d 15 (14, [some (.inr (.inl 0)), none], [.inr (.inl (47 + n42))], n42, D43, s44, p45, c46) _
      refine tt_k 11 (S' := (39, [some (.inr (.inl 0)), some (.inr (.inl (47 + n42)))], [.inl (s44 2005)], n42, D43, (us s44 11 (s44 2006)), p45, c46)) rfl ?_
      have b47 : 0 ≤ (s44 2005) ∧ (s44 2005) ≤ 8 := hS44 2005
      have b48 : -1 ≤ (s44 2006) ∧ (s44 2006) ≤ 100000 := hS44 2006
      exact tt_rti rfl rfl ⟨(s44 2005), rfl, by omega, cX_mono (q := (q + 1)) (show cX (q + 1) g s p c [18, 19, 900, 901, 2103, 2104, 2504, 2704] [10, 11, 800, 801, 802, 803, 804, 805, 806, 807, 808, 809, 902, 1705, 1706, 2001, 2002, 2003, 2004, 2005, 2006, 2106, 2107, 2108, 2109, 2110, 2111, 2112, 2113, 2114, 2115, 2116, 2500, 2501, 2502, 2503, 2700, 2701, 2702, 2703] (n42, D43, (us s44 11 (s44 2006)), p45, c46) from ⟨(bS_us hS44 (show -1 ≤ (s44 2006) ∧ (s44 2006) ≤ 100000 by omega)), hC46, (wp_us (by decide) hW45), FKp45, (show fr s (us s44 11 (s44 2006)) [10, 11, 800, 801, 802, 803, 804, 805, 806, 807, 808, 809, 902, 1705, 1706, 2001, 2002, 2003, 2004, 2005, 2006, 2106, 2107, 2108, 2109, 2110, 2111, 2112, 2113, 2114, 2115, 2116, 2500, 2501, 2502, 2503, 2700, 2701, 2702, 2703] from (fr_us (by decide) (fr_wk Fxs44 (by decide))))⟩) (by omega), by exact Or.inr ⟨hn41, by show pcS s p c (us s44 11 (s44 2006)) p45 c46; unfold pcS; rw [hp8]; exact ⟨(hY40).2.trans hp8, (hY40).1.2.2.2.2 10 (by decide), ⟨(hY40).1.2.2.2.2 2700 (by decide), (hY40).1.2.2.2.2 2701 (by decide), (hY40).1.2.2.2.2 2702 (by decide), (hY40).1.2.2.2.2 2703 (by decide)⟩, fk_k (k := 2704) (hY40).1.2.2.2.1 (by decide)⟩⟩⟩
    have FK49 : fk p c n29 p32 c33 [18, 19, 900, 901, 2103, 2104, 2504, 2704] := fk_tr (fk_rf hD) kf38 (by decide)
    show tt Zi d 15 (11, [some (.inr (.inl 0)), none], [], n29, D30, s31, p32, c33) _
    have b50 : 0 ≤ (s31 2500) ∧ (s31 2500) ≤ 64 := hS31 2500
    have b51 : 0 ≤ (s31 2501) ∧ (s31 2501) ≤ 64 := hS31 2501
    have b52 : 0 ≤ (s31 2502) ∧ (s31 2502) ≤ 3 := hS31 2502
    have b53 : 0 ≤ (s31 2503) ∧ (s31 2503) ≤ 16 := hS31 2503
    have hx54 : tpl A (s31 601) (c33 (p32 600)) := by rw [f35 601 (by decide), fk_k (k := 600) kf38 (by decide)]; exact hp0
    have hp8x : p32 8 = 27 := (g36 8 (by decide)).trans hp8
    have hp9x : p32 9 = 25 := (g36 9 (by decide)).trans hp9
    obtain ⟨S, u1, u2, u3⟩ := k39
    refine tt_k 3 (S' := (44, [some (.inr (.inl 0)), none], [.inr (.inl (p32 8))], n29, D30, s31, p32, c33)) rfl ?_
    rw [hp8x]
    show tt Zi d 15 (44, [some (.inr (.inl 0)), none], [.inr (.inl 27)], n29, D30, s31, p32, c33) _
    refine tt_k 4 (S' := (50, [some (.inr (.inl 0)), some (.inr (.inl 27))], [.inr (.inl (p32 9)), .inr (.inl 0)], n29, D30, s31, p32, c33)) rfl ?_
    rw [hp9x]
    show tt Zi d 15 (50, [some (.inr (.inl 0)), some (.inr (.inl 27))], [.inr (.inl 25), .inr (.inl 0)], n29, D30, s31, p32, c33) _
    refine tt_k 11 (S' := (69, [some (.inr (.inl 0)), some (.inr (.inl 27))], [.inl 0], n29, D30, (us (us s31 10 1) 11 (-1)), (up (up p32 8 25) 9 27), c33)) rfl ?_
    exact tt_rti rfl rfl ⟨0, rfl, by omega, cX_mono (q := q) (show cX q g s p c [18, 19, 900, 901, 2103, 2104, 2504, 2704] [10, 11, 800, 801, 802, 803, 804, 805, 806, 807, 808, 809, 902, 1705, 1706, 2001, 2002, 2003, 2004, 2005, 2006, 2106, 2107, 2108, 2109, 2110, 2111, 2112, 2113, 2114, 2115, 2116, 2500, 2501, 2502, 2503, 2700, 2701, 2702, 2703] (n29, D30, (us (us s31 10 1) 11 (-1)), (up (up p32 8 25) 9 27), c33) from ⟨(bS_us (bS_us hS31 (show 0 ≤ 1 ∧ 1 ≤ 1 by omega)) (show -1 ≤ (-1) ∧ (-1) ≤ 100000 by omega)), hC33, (wp_us (by decide) (wp_us (by decide) (wp_pp2 hW34))), (fk_up (by decide) (fk_up (by decide) FK49)), (show fr s (us (us s31 10 1) 11 (-1)) [10, 11, 800, 801, 802, 803, 804, 805, 806, 807, 808, 809, 902, 1705, 1706, 2001, 2002, 2003, 2004, 2005, 2006, 2106, 2107, 2108, 2109, 2110, 2111, 2112, 2113, 2114, 2115, 2116, 2500, 2501, 2502, 2503, 2700, 2701, 2702, 2703] from (fr_us (by decide) (fr_us (by decide) (fr_tr fr_rf f35 (by decide)))))⟩) (by omega), by exact Or.inl ⟨rfl, S, u1, u2, by show rwE (s31 2500) (s31 2501) (s31 2502) (s31 2503) (c33 (p32 2504)) S; exact u3⟩⟩
set_option maxRecDepth 100000 in
set_option maxHeartbeats 4000000 in
theorem e_about {g : Nat → Int} {Zi : Nat → Option (Nat × (Nat → Int))} {d n q : Nat} {D : Nat → Nat × Nat} {s : Nat → Int} {p : Nat → Nat} {c : Nat → Nat → Int} (hd : 3 ≤ d) (hz : zk Zi) (hq : q + 6 ≤ 400000) (hD : wd n p) (hS : bS s) (hC : bC D c) (hW : wp q g n D p s) (i : Int) (b_i : -2147483648 ≤ i ∧ i ≤ 2147483647) : tt Zi d 128 (0, [some (.inr (.inl 0)), some (.inl i)], [], n, D, s, p, c) (fun R H => (∃ r : Int, R = .inl (some (.inl r)) ∧ (0 ≤ r ∧ r ≤ 64) ∧ cXp (q + 1) g s p c [] [] H ∧ ((0 ≤ i ∧ i ≤ 3) ∧ s 10 = 1) ∧ (r = abV i s p)) ∨ (R = .inr 11 ∧ cXp (q + 1) g s p c [] [800, 801, 802, 803, 804, 805, 806, 807, 808, 809] H ∧ ¬ (0 ≤ i ∧ i ≤ 3)) ∨ (R = .inr 12 ∧ cXp (q + 1) g s p c [] [800, 801, 802, 803, 804, 805, 806, 807, 808, 809] H ∧ (0 ≤ i ∧ i ≤ 3) ∧ s 10 ≠ 1)) := by
  have b1 : 0 ≤ (s 10) ∧ (s 10) ≤ 1 := hS 10
  rcases (hW).pp with ⟨hp8, hp9⟩ | ⟨hp8, hp9⟩
  · skip
    refine tt_k 1 (S' := (1, [some (.inr (.inl 0)), some (.inl i)], [.inl i], n, D, s, p, c)) rfl ?_
    refine tz_lt (x := i) rfl rfl (by omega) (fun h2 => ?_) (fun h2 => ?_)
    · show tt Zi d 128 (9, [some (.inr (.inl 0)), some (.inl i)], [], n, D, s, p, c) _
      have hn3 := wp_n hW (by omega)
      exact tt_thr (q := (11, 923)) rfl rfl (by decide) (by decide) (by omega) (by omega) (Or.inr (Or.inl ⟨rfl, cXp_mono (q := q + 1) ⟨⟨hS, bC_x hC (hW).dz (by decide), wp_x hW, fk_x (fk_rf hD), (show fr s s [800, 801, 802, 803, 804, 805, 806, 807, 808, 809] from fr_rf)⟩, ((frp_rf : frp p p [104, 400, 600, 900, 901, 1203, 1204, 1205, 2103, 2104, 2105, 2504, 2704]) 8 (by decide))⟩ (by omega), by omega⟩))
    · show tt Zi d 128 (4, [some (.inr (.inl 0)), some (.inl i)], [], n, D, s, p, c) _
      refine tt_k 2 (S' := (6, [some (.inr (.inl 0)), some (.inl i)], [.inl 3, .inl i], n, D, s, p, c)) rfl ?_
      refine tb_le (x := i) (y := 3) rfl rfl (by omega) (fun h4 => ?_) (fun h4 => ?_)
      · show tt Zi d 128 (17, [some (.inr (.inl 0)), some (.inl i)], [], n, D, s, p, c) _
        refine tt_k 2 (S' := (21, [some (.inr (.inl 0)), some (.inl i)], [.inl (s 10)], n, D, s, p, c)) rfl ?_
        refine tz_ne (x := (s 10)) rfl rfl (by omega) (fun h5 => ?_) (fun h5 => ?_)
        · show tt Zi d 128 (32, [some (.inr (.inl 0)), some (.inl i)], [], n, D, s, p, c) _
          refine tt_k 1 (S' := (33, [some (.inr (.inl 0)), some (.inl i)], [.inl i], n, D, s, p, c)) rfl ?_
          by_cases h6 : i = 0
          · have h7 := h6
            refine tt_tsw (x := i) (off := 27) rfl (by omega) (by omega) (by rw [h6]; rfl) rfl ?_
            show tt Zi d 128 (60, [some (.inr (.inl 0)), some (.inl i)], [], n, D, s, p, c) _
            refine tt_k 2 (S' := (64, [some (.inr (.inl 0)), some (.inl i)], [.inr (.inl (p 8))], n, D, s, p, c)) rfl ?_
            rw [hp8]
            show tt Zi d 128 (64, [some (.inr (.inl 0)), some (.inl i)], [.inr (.inl 25)], n, D, s, p, c) _
            refine tt_k 1 (S' := (67, [some (.inr (.inl 0)), some (.inl i)], [.inl (s 2500)], n, D, s, p, c)) rfl ?_
            have b8 : 0 ≤ (s 2500) ∧ (s 2500) ≤ 64 := hS 2500
            exact tt_rti rfl rfl (Or.inl ⟨(s 2500), rfl, by omega, ⟨cX_mono (q := q) (show cX q g s p c [] [] (n, D, s, p, c) from ⟨hS, hC, hW, (fk_rf hD), (show fr s s [] from fr_rf)⟩) (by omega), ((frp_rf : frp p p [104, 400, 600, 900, 901, 1203, 1204, 1205, 2103, 2104, 2105, 2504, 2704]) 8 (by decide))⟩, by omega, by unfold abV; rw [hp8]; first | (rw [if_pos (by omega)]; done) | (rw [if_neg (by omega), if_pos (by omega)]; done) | (rw [if_neg (by omega), if_neg (by omega), if_pos (by omega)]; done) | (rw [if_neg (by omega), if_neg (by omega), if_neg (by omega)]; done)⟩)
          by_cases h9 : i = 1
          · have h10 := h9
            refine tt_tsw (x := i) (off := 35) rfl (by omega) (by omega) (by rw [h9]; rfl) rfl ?_
            show tt Zi d 128 (68, [some (.inr (.inl 0)), some (.inl i)], [], n, D, s, p, c) _
            refine tt_k 2 (S' := (72, [some (.inr (.inl 0)), some (.inl i)], [.inr (.inl (p 8))], n, D, s, p, c)) rfl ?_
            rw [hp8]
            show tt Zi d 128 (72, [some (.inr (.inl 0)), some (.inl i)], [.inr (.inl 25)], n, D, s, p, c) _
            refine tt_k 1 (S' := (75, [some (.inr (.inl 0)), some (.inl i)], [.inl (s 2501)], n, D, s, p, c)) rfl ?_
            have b11 : 0 ≤ (s 2501) ∧ (s 2501) ≤ 64 := hS 2501
            exact tt_rti rfl rfl (Or.inl ⟨(s 2501), rfl, by omega, ⟨cX_mono (q := q) (show cX q g s p c [] [] (n, D, s, p, c) from ⟨hS, hC, hW, (fk_rf hD), (show fr s s [] from fr_rf)⟩) (by omega), ((frp_rf : frp p p [104, 400, 600, 900, 901, 1203, 1204, 1205, 2103, 2104, 2105, 2504, 2704]) 8 (by decide))⟩, by omega, by unfold abV; rw [hp8]; first | (rw [if_pos (by omega)]; done) | (rw [if_neg (by omega), if_pos (by omega)]; done) | (rw [if_neg (by omega), if_neg (by omega), if_pos (by omega)]; done) | (rw [if_neg (by omega), if_neg (by omega), if_neg (by omega)]; done)⟩)
          by_cases h12 : i = 2
          · have h13 := h12
            refine tt_tsw (x := i) (off := 43) rfl (by omega) (by omega) (by rw [h12]; rfl) rfl ?_
            show tt Zi d 128 (76, [some (.inr (.inl 0)), some (.inl i)], [], n, D, s, p, c) _
            refine tt_k 2 (S' := (80, [some (.inr (.inl 0)), some (.inl i)], [.inr (.inl (p 8))], n, D, s, p, c)) rfl ?_
            rw [hp8]
            show tt Zi d 128 (80, [some (.inr (.inl 0)), some (.inl i)], [.inr (.inl 25)], n, D, s, p, c) _
            refine tt_k 1 (S' := (83, [some (.inr (.inl 0)), some (.inl i)], [.inl (s 2502)], n, D, s, p, c)) rfl ?_
            have b14 : 0 ≤ (s 2502) ∧ (s 2502) ≤ 3 := hS 2502
            exact tt_rti rfl rfl (Or.inl ⟨(s 2502), rfl, by omega, ⟨cX_mono (q := q) (show cX q g s p c [] [] (n, D, s, p, c) from ⟨hS, hC, hW, (fk_rf hD), (show fr s s [] from fr_rf)⟩) (by omega), ((frp_rf : frp p p [104, 400, 600, 900, 901, 1203, 1204, 1205, 2103, 2104, 2105, 2504, 2704]) 8 (by decide))⟩, by omega, by unfold abV; rw [hp8]; first | (rw [if_pos (by omega)]; done) | (rw [if_neg (by omega), if_pos (by omega)]; done) | (rw [if_neg (by omega), if_neg (by omega), if_pos (by omega)]; done) | (rw [if_neg (by omega), if_neg (by omega), if_neg (by omega)]; done)⟩)
          refine tt_tsd (x := i) rfl (by omega) (by omega) rfl ?_
          show tt Zi d 128 (84, [some (.inr (.inl 0)), some (.inl i)], [], n, D, s, p, c) _
          refine tt_k 2 (S' := (88, [some (.inr (.inl 0)), some (.inl i)], [.inr (.inl (p 8))], n, D, s, p, c)) rfl ?_
          rw [hp8]
          show tt Zi d 128 (88, [some (.inr (.inl 0)), some (.inl i)], [.inr (.inl 25)], n, D, s, p, c) _
          refine tt_k 1 (S' := (91, [some (.inr (.inl 0)), some (.inl i)], [.inl (s 2503)], n, D, s, p, c)) rfl ?_
          have b15 : 0 ≤ (s 2503) ∧ (s 2503) ≤ 16 := hS 2503
          exact tt_rti rfl rfl (Or.inl ⟨(s 2503), rfl, by omega, ⟨cX_mono (q := q) (show cX q g s p c [] [] (n, D, s, p, c) from ⟨hS, hC, hW, (fk_rf hD), (show fr s s [] from fr_rf)⟩) (by omega), ((frp_rf : frp p p [104, 400, 600, 900, 901, 1203, 1204, 1205, 2103, 2104, 2105, 2504, 2704]) 8 (by decide))⟩, by omega, by unfold abV; rw [hp8]; first | (rw [if_pos (by omega)]; done) | (rw [if_neg (by omega), if_pos (by omega)]; done) | (rw [if_neg (by omega), if_neg (by omega), if_pos (by omega)]; done) | (rw [if_neg (by omega), if_neg (by omega), if_neg (by omega)]; done)⟩)
        · show tt Zi d 128 (24, [some (.inr (.inl 0)), some (.inl i)], [], n, D, s, p, c) _
          have hn16 := wp_n hW (by omega)
          exact tt_thr (q := (12, 475)) rfl rfl (by decide) (by decide) (by omega) (by omega) (Or.inr (Or.inr ⟨rfl, cXp_mono (q := q + 1) ⟨⟨hS, bC_x hC (hW).dz (by decide), wp_x hW, fk_x (fk_rf hD), (show fr s s [800, 801, 802, 803, 804, 805, 806, 807, 808, 809] from fr_rf)⟩, ((frp_rf : frp p p [104, 400, 600, 900, 901, 1203, 1204, 1205, 2103, 2104, 2105, 2504, 2704]) 8 (by decide))⟩ (by omega), by omega⟩))
      · show tt Zi d 128 (9, [some (.inr (.inl 0)), some (.inl i)], [], n, D, s, p, c) _
        have hn17 := wp_n hW (by omega)
        exact tt_thr (q := (11, 923)) rfl rfl (by decide) (by decide) (by omega) (by omega) (Or.inr (Or.inl ⟨rfl, cXp_mono (q := q + 1) ⟨⟨hS, bC_x hC (hW).dz (by decide), wp_x hW, fk_x (fk_rf hD), (show fr s s [800, 801, 802, 803, 804, 805, 806, 807, 808, 809] from fr_rf)⟩, ((frp_rf : frp p p [104, 400, 600, 900, 901, 1203, 1204, 1205, 2103, 2104, 2105, 2504, 2704]) 8 (by decide))⟩ (by omega), by omega⟩))
  · skip
    refine tt_k 1 (S' := (1, [some (.inr (.inl 0)), some (.inl i)], [.inl i], n, D, s, p, c)) rfl ?_
    refine tz_lt (x := i) rfl rfl (by omega) (fun h18 => ?_) (fun h18 => ?_)
    · show tt Zi d 128 (9, [some (.inr (.inl 0)), some (.inl i)], [], n, D, s, p, c) _
      have hn19 := wp_n hW (by omega)
      exact tt_thr (q := (11, 923)) rfl rfl (by decide) (by decide) (by omega) (by omega) (Or.inr (Or.inl ⟨rfl, cXp_mono (q := q + 1) ⟨⟨hS, bC_x hC (hW).dz (by decide), wp_x hW, fk_x (fk_rf hD), (show fr s s [800, 801, 802, 803, 804, 805, 806, 807, 808, 809] from fr_rf)⟩, ((frp_rf : frp p p [104, 400, 600, 900, 901, 1203, 1204, 1205, 2103, 2104, 2105, 2504, 2704]) 8 (by decide))⟩ (by omega), by omega⟩))
    · show tt Zi d 128 (4, [some (.inr (.inl 0)), some (.inl i)], [], n, D, s, p, c) _
      refine tt_k 2 (S' := (6, [some (.inr (.inl 0)), some (.inl i)], [.inl 3, .inl i], n, D, s, p, c)) rfl ?_
      refine tb_le (x := i) (y := 3) rfl rfl (by omega) (fun h20 => ?_) (fun h20 => ?_)
      · show tt Zi d 128 (17, [some (.inr (.inl 0)), some (.inl i)], [], n, D, s, p, c) _
        refine tt_k 2 (S' := (21, [some (.inr (.inl 0)), some (.inl i)], [.inl (s 10)], n, D, s, p, c)) rfl ?_
        refine tz_ne (x := (s 10)) rfl rfl (by omega) (fun h21 => ?_) (fun h21 => ?_)
        · show tt Zi d 128 (32, [some (.inr (.inl 0)), some (.inl i)], [], n, D, s, p, c) _
          refine tt_k 1 (S' := (33, [some (.inr (.inl 0)), some (.inl i)], [.inl i], n, D, s, p, c)) rfl ?_
          by_cases h22 : i = 0
          · have h23 := h22
            refine tt_tsw (x := i) (off := 27) rfl (by omega) (by omega) (by rw [h22]; rfl) rfl ?_
            show tt Zi d 128 (60, [some (.inr (.inl 0)), some (.inl i)], [], n, D, s, p, c) _
            refine tt_k 2 (S' := (64, [some (.inr (.inl 0)), some (.inl i)], [.inr (.inl (p 8))], n, D, s, p, c)) rfl ?_
            rw [hp8]
            show tt Zi d 128 (64, [some (.inr (.inl 0)), some (.inl i)], [.inr (.inl 27)], n, D, s, p, c) _
            refine tt_k 1 (S' := (67, [some (.inr (.inl 0)), some (.inl i)], [.inl (s 2700)], n, D, s, p, c)) rfl ?_
            have b24 : 0 ≤ (s 2700) ∧ (s 2700) ≤ 64 := hS 2700
            exact tt_rti rfl rfl (Or.inl ⟨(s 2700), rfl, by omega, ⟨cX_mono (q := q) (show cX q g s p c [] [] (n, D, s, p, c) from ⟨hS, hC, hW, (fk_rf hD), (show fr s s [] from fr_rf)⟩) (by omega), ((frp_rf : frp p p [104, 400, 600, 900, 901, 1203, 1204, 1205, 2103, 2104, 2105, 2504, 2704]) 8 (by decide))⟩, by omega, by unfold abV; rw [hp8]; first | (rw [if_pos (by omega)]; done) | (rw [if_neg (by omega), if_pos (by omega)]; done) | (rw [if_neg (by omega), if_neg (by omega), if_pos (by omega)]; done) | (rw [if_neg (by omega), if_neg (by omega), if_neg (by omega)]; done)⟩)
          by_cases h25 : i = 1
          · have h26 := h25
            refine tt_tsw (x := i) (off := 35) rfl (by omega) (by omega) (by rw [h25]; rfl) rfl ?_
            show tt Zi d 128 (68, [some (.inr (.inl 0)), some (.inl i)], [], n, D, s, p, c) _
            refine tt_k 2 (S' := (72, [some (.inr (.inl 0)), some (.inl i)], [.inr (.inl (p 8))], n, D, s, p, c)) rfl ?_
            rw [hp8]
            show tt Zi d 128 (72, [some (.inr (.inl 0)), some (.inl i)], [.inr (.inl 27)], n, D, s, p, c) _
            refine tt_k 1 (S' := (75, [some (.inr (.inl 0)), some (.inl i)], [.inl (s 2701)], n, D, s, p, c)) rfl ?_
            have b27 : 0 ≤ (s 2701) ∧ (s 2701) ≤ 64 := hS 2701
            exact tt_rti rfl rfl (Or.inl ⟨(s 2701), rfl, by omega, ⟨cX_mono (q := q) (show cX q g s p c [] [] (n, D, s, p, c) from ⟨hS, hC, hW, (fk_rf hD), (show fr s s [] from fr_rf)⟩) (by omega), ((frp_rf : frp p p [104, 400, 600, 900, 901, 1203, 1204, 1205, 2103, 2104, 2105, 2504, 2704]) 8 (by decide))⟩, by omega, by unfold abV; rw [hp8]; first | (rw [if_pos (by omega)]; done) | (rw [if_neg (by omega), if_pos (by omega)]; done) | (rw [if_neg (by omega), if_neg (by omega), if_pos (by omega)]; done) | (rw [if_neg (by omega), if_neg (by omega), if_neg (by omega)]; done)⟩)
          by_cases h28 : i = 2
          · have h29 := h28
            refine tt_tsw (x := i) (off := 43) rfl (by omega) (by omega) (by rw [h28]; rfl) rfl ?_
            show tt Zi d 128 (76, [some (.inr (.inl 0)), some (.inl i)], [], n, D, s, p, c) _
            refine tt_k 2 (S' := (80, [some (.inr (.inl 0)), some (.inl i)], [.inr (.inl (p 8))], n, D, s, p, c)) rfl ?_
            rw [hp8]
            show tt Zi d 128 (80, [some (.inr (.inl 0)), some (.inl i)], [.inr (.inl 27)], n, D, s, p, c) _
            refine tt_k 1 (S' := (83, [some (.inr (.inl 0)), some (.inl i)], [.inl (s 2702)], n, D, s, p, c)) rfl ?_
            have b30 : 0 ≤ (s 2702) ∧ (s 2702) ≤ 3 := hS 2702
            exact tt_rti rfl rfl (Or.inl ⟨(s 2702), rfl, by omega, ⟨cX_mono (q := q) (show cX q g s p c [] [] (n, D, s, p, c) from ⟨hS, hC, hW, (fk_rf hD), (show fr s s [] from fr_rf)⟩) (by omega), ((frp_rf : frp p p [104, 400, 600, 900, 901, 1203, 1204, 1205, 2103, 2104, 2105, 2504, 2704]) 8 (by decide))⟩, by omega, by unfold abV; rw [hp8]; first | (rw [if_pos (by omega)]; done) | (rw [if_neg (by omega), if_pos (by omega)]; done) | (rw [if_neg (by omega), if_neg (by omega), if_pos (by omega)]; done) | (rw [if_neg (by omega), if_neg (by omega), if_neg (by omega)]; done)⟩)
          refine tt_tsd (x := i) rfl (by omega) (by omega) rfl ?_
          show tt Zi d 128 (84, [some (.inr (.inl 0)), some (.inl i)], [], n, D, s, p, c) _
          refine tt_k 2 (S' := (88, [some (.inr (.inl 0)), some (.inl i)], [.inr (.inl (p 8))], n, D, s, p, c)) rfl ?_
          rw [hp8]
          show tt Zi d 128 (88, [some (.inr (.inl 0)), some (.inl i)], [.inr (.inl 27)], n, D, s, p, c) _
          refine tt_k 1 (S' := (91, [some (.inr (.inl 0)), some (.inl i)], [.inl (s 2703)], n, D, s, p, c)) rfl ?_
          have b31 : 0 ≤ (s 2703) ∧ (s 2703) ≤ 16 := hS 2703
          exact tt_rti rfl rfl (Or.inl ⟨(s 2703), rfl, by omega, ⟨cX_mono (q := q) (show cX q g s p c [] [] (n, D, s, p, c) from ⟨hS, hC, hW, (fk_rf hD), (show fr s s [] from fr_rf)⟩) (by omega), ((frp_rf : frp p p [104, 400, 600, 900, 901, 1203, 1204, 1205, 2103, 2104, 2105, 2504, 2704]) 8 (by decide))⟩, by omega, by unfold abV; rw [hp8]; first | (rw [if_pos (by omega)]; done) | (rw [if_neg (by omega), if_pos (by omega)]; done) | (rw [if_neg (by omega), if_neg (by omega), if_pos (by omega)]; done) | (rw [if_neg (by omega), if_neg (by omega), if_neg (by omega)]; done)⟩)
        · show tt Zi d 128 (24, [some (.inr (.inl 0)), some (.inl i)], [], n, D, s, p, c) _
          have hn32 := wp_n hW (by omega)
          exact tt_thr (q := (12, 475)) rfl rfl (by decide) (by decide) (by omega) (by omega) (Or.inr (Or.inr ⟨rfl, cXp_mono (q := q + 1) ⟨⟨hS, bC_x hC (hW).dz (by decide), wp_x hW, fk_x (fk_rf hD), (show fr s s [800, 801, 802, 803, 804, 805, 806, 807, 808, 809] from fr_rf)⟩, ((frp_rf : frp p p [104, 400, 600, 900, 901, 1203, 1204, 1205, 2103, 2104, 2105, 2504, 2704]) 8 (by decide))⟩ (by omega), by omega⟩))
      · show tt Zi d 128 (9, [some (.inr (.inl 0)), some (.inl i)], [], n, D, s, p, c) _
        have hn33 := wp_n hW (by omega)
        exact tt_thr (q := (11, 923)) rfl rfl (by decide) (by decide) (by omega) (by omega) (Or.inr (Or.inl ⟨rfl, cXp_mono (q := q + 1) ⟨⟨hS, bC_x hC (hW).dz (by decide), wp_x hW, fk_x (fk_rf hD), (show fr s s [800, 801, 802, 803, 804, 805, 806, 807, 808, 809] from fr_rf)⟩, ((frp_rf : frp p p [104, 400, 600, 900, 901, 1203, 1204, 1205, 2103, 2104, 2105, 2504, 2704]) 8 (by decide))⟩ (by omega), by omega⟩))
set_option maxRecDepth 100000 in
set_option maxHeartbeats 4000000 in
theorem e_sample {g : Nat → Int} {Zi : Nat → Option (Nat × (Nat → Int))} {d n q : Nat} {D : Nat → Nat × Nat} {s : Nat → Int} {p : Nat → Nat} {c : Nat → Nat → Int} (hd : 3 ≤ d) (hz : zk Zi) (hq : q + 6 ≤ 400000) (hD : wd n p) (hS : bS s) (hC : bC D c) (hW : wp q g n D p s) (a_ : Int) (x : Int) (y : Int) (b_a_ : -2147483648 ≤ a_ ∧ a_ ≤ 2147483647) (b_x : -2147483648 ≤ x ∧ x ≤ 2147483647) (b_y : -2147483648 ≤ y ∧ y ≤ 2147483647) : tt Zi d 130 (0, [some (.inr (.inl 0)), some (.inl a_), some (.inl x), some (.inl y)], [], n, D, s, p, c) (fun R H => (∃ r : Int, R = .inl (some (.inl r)) ∧ (0 ≤ r ∧ r ≤ 65535) ∧ cXp (q + 1) g s p c [] [] H ∧ (s 10 = 1 ∧ ((0 ≤ a_ ∧ a_ < s (100 * p 8 + 2)) ∧ (0 ≤ x ∧ x < s (100 * p 8)) ∧ (0 ≤ y ∧ y < s (100 * p 8 + 1)))) ∧ (r = c (p (100 * p 8 + 4)) ((a_ * s (100 * p 8 + 1) + y) * s (100 * p 8) + x).toNat)) ∨ (R = .inr 12 ∧ cXp (q + 1) g s p c [] [800, 801, 802, 803, 804, 805, 806, 807, 808, 809] H ∧ s 10 ≠ 1) ∨ (R = .inr 13 ∧ cXp (q + 1) g s p c [] [800, 801, 802, 803, 804, 805, 806, 807, 808, 809] H ∧ s 10 = 1 ∧ ¬ ((0 ≤ a_ ∧ a_ < s (100 * p 8 + 2)) ∧ (0 ≤ x ∧ x < s (100 * p 8)) ∧ (0 ≤ y ∧ y < s (100 * p 8 + 1))))) := by
  have b1 : 0 ≤ (s 10) ∧ (s 10) ≤ 1 := hS 10
  rcases (hW).pp with ⟨hp8, hp9⟩ | ⟨hp8, hp9⟩
  · skip
    refine tt_k 2 (S' := (4, [some (.inr (.inl 0)), some (.inl a_), some (.inl x), some (.inl y)], [.inl (s 10)], n, D, s, p, c)) rfl ?_
    refine tz_ne (x := (s 10)) rfl rfl (by omega) (fun h2 => ?_) (fun h2 => ?_)
    · show tt Zi d 130 (15, [some (.inr (.inl 0)), some (.inl a_), some (.inl x), some (.inl y)], [], n, D, s, p, c) _
      refine tt_k 2 (S' := (19, [some (.inr (.inl 0)), some (.inl a_), some (.inl x), some (.inl y)], [.inr (.inl (p 8))], n, D, s, p, c)) rfl ?_
      rw [hp8]
      show tt Zi d 130 (19, [some (.inr (.inl 0)), some (.inl a_), some (.inl x), some (.inl y)], [.inr (.inl 25)], n, D, s, p, c) _
      refine tt_k 3 (S' := (22, [some (.inr (.inl 0)), some (.inl a_), some (.inl x), some (.inl y)], [.inl y, .inl x, .inl a_, .inr (.inl 25)], n, D, s, p, c)) rfl ?_
      have b3 : 0 ≤ (s 2500) ∧ (s 2500) ≤ 64 := hS 2500
      have b4 : 0 ≤ (s 2501) ∧ (s 2501) ≤ 64 := hS 2501
      have b5 : 0 ≤ (s 2502) ∧ (s 2502) ≤ 3 := hS 2502
      refine tt_cl (by omega) rfl (g_has25 (Zi := Zi) (q := q) (n := n) (D := D) (s := s) (p := p) (c := c) (by omega) hz (by omega) hD hS hC hW a_ x y (by omega) (by omega) (by omega)) ?_
      rintro _ _ ⟨r6, rfl, rfl, b7, k8⟩
      show tt Zi d 130 (25, [some (.inr (.inl 0)), some (.inl a_), some (.inl x), some (.inl y)], [.inl r6], n, D, s, p, c) _
      replace k8 : r6 = 1 ↔ ((0 ≤ a_ ∧ a_ < (s 2502)) ∧ (0 ≤ x ∧ x < (s 2500)) ∧ (0 ≤ y ∧ y < (s 2501))) := k8
      refine tz_ne (x := r6) rfl rfl (by omega) (fun h9 => ?_) (fun h9 => ?_)
      · show tt Zi d 130 (36, [some (.inr (.inl 0)), some (.inl a_), some (.inl x), some (.inl y)], [], n, D, s, p, c) _
        refine tt_k 2 (S' := (40, [some (.inr (.inl 0)), some (.inl a_), some (.inl x), some (.inl y)], [.inr (.inl (p 8))], n, D, s, p, c)) rfl ?_
        rw [hp8]
        show tt Zi d 130 (40, [some (.inr (.inl 0)), some (.inl a_), some (.inl x), some (.inl y)], [.inr (.inl 25)], n, D, s, p, c) _
        refine tt_k 3 (S' := (47, [some (.inr (.inl 0)), some (.inl a_), some (.inl x), some (.inl y)], [.inr (.inl (p 8)), .inr (.inl (p 2504))], n, D, s, p, c)) rfl ?_
        rw [hp8]
        show tt Zi d 130 (47, [some (.inr (.inl 0)), some (.inl a_), some (.inl x), some (.inl y)], [.inr (.inl 25), .inr (.inl (p 2504))], n, D, s, p, c) _
        refine tt_k 3 (S' := (50, [some (.inr (.inl 0)), some (.inl a_), some (.inl x), some (.inl y)], [.inl y, .inl x, .inl a_, .inr (.inl 25), .inr (.inl (p 2504))], n, D, s, p, c)) rfl ?_
        have b10 : ln D (p 2504) ≤ 12288 := (hW).p25.2.2
        have b11 := hW.w25
        refine tt_cl (by omega) rfl (g_index25 (Zi := Zi) (q := q) (n := n) (D := D) (s := s) (p := p) (c := c) (by omega) hz (by omega) hD hS hC hW a_ x y (by omega) (by omega) (by omega) (show a_ < (s 2502) ∧ x < (s 2500) ∧ y < (s 2501) by omega)) ?_
        rintro _ _ ⟨r12, rfl, rfl, b13, k14, k15⟩
        show tt Zi d 130 (53, [some (.inr (.inl 0)), some (.inl a_), some (.inl x), some (.inl y)], [.inl r12, .inr (.inl (p 2504))], n, D, s, p, c) _
        replace k14 : r12 = (a_ * (s 2501) + y) * (s 2500) + x := k14
        replace k15 : r12 + (s 2500) - x ≤ (s 2500) * (s 2501) * (s 2502) := k15
        refine tt_ilb (i := r12) (m := (ln D (p 2504))) (lo := 0) (hi := 65535) rfl ((hW).p25.1) (by omega) hC ((hW).p25.2.1) ?_
        intro v16 b17 hvv16
        show tt Zi d 130 (54, [some (.inr (.inl 0)), some (.inl a_), some (.inl x), some (.inl y)], [.inl v16], n, D, s, p, c) _
        exact tt_rti rfl rfl (Or.inl ⟨v16, rfl, by omega, ⟨cX_mono (q := q) (show cX q g s p c [] [] (n, D, s, p, c) from ⟨hS, hC, hW, (fk_rf hD), (show fr s s [] from fr_rf)⟩) (by omega), ((frp_rf : frp p p [104, 400, 600, 900, 901, 1203, 1204, 1205, 2103, 2104, 2105, 2504, 2704]) 8 (by decide))⟩, by first | (simp only [Nat.reduceMul, Nat.reduceAdd]; omega) | (rw [hp8]; simp only [Nat.reduceMul, Nat.reduceAdd]; omega), by (try rw [hp8]); show v16 = c (p 2504) ((a_ * s 2501 + y) * s 2500 + x).toNat; rw [← hvv16, k14]⟩)
      · show tt Zi d 130 (28, [some (.inr (.inl 0)), some (.inl a_), some (.inl x), some (.inl y)], [], n, D, s, p, c) _
        have hn18 := wp_n hW (by omega)
        exact tt_thr (q := (13, 955)) rfl rfl (by decide) (by decide) (by omega) (by omega) (Or.inr (Or.inr ⟨rfl, cXp_mono (q := q + 1) ⟨⟨hS, bC_x hC (hW).dz (by decide), wp_x hW, fk_x (fk_rf hD), (show fr s s [800, 801, 802, 803, 804, 805, 806, 807, 808, 809] from fr_rf)⟩, ((frp_rf : frp p p [104, 400, 600, 900, 901, 1203, 1204, 1205, 2103, 2104, 2105, 2504, 2704]) 8 (by decide))⟩ (by omega), by first | omega | (simp only [Nat.reduceMul, Nat.reduceAdd]; omega) | (rw [hp8]; simp only [Nat.reduceMul, Nat.reduceAdd]; omega)⟩))
    · show tt Zi d 130 (7, [some (.inr (.inl 0)), some (.inl a_), some (.inl x), some (.inl y)], [], n, D, s, p, c) _
      have hn19 := wp_n hW (by omega)
      exact tt_thr (q := (12, 475)) rfl rfl (by decide) (by decide) (by omega) (by omega) (Or.inr (Or.inl ⟨rfl, cXp_mono (q := q + 1) ⟨⟨hS, bC_x hC (hW).dz (by decide), wp_x hW, fk_x (fk_rf hD), (show fr s s [800, 801, 802, 803, 804, 805, 806, 807, 808, 809] from fr_rf)⟩, ((frp_rf : frp p p [104, 400, 600, 900, 901, 1203, 1204, 1205, 2103, 2104, 2105, 2504, 2704]) 8 (by decide))⟩ (by omega), by first | omega | (simp only [Nat.reduceMul, Nat.reduceAdd]; omega) | (rw [hp8]; simp only [Nat.reduceMul, Nat.reduceAdd]; omega)⟩))
  · skip
    refine tt_k 2 (S' := (4, [some (.inr (.inl 0)), some (.inl a_), some (.inl x), some (.inl y)], [.inl (s 10)], n, D, s, p, c)) rfl ?_
    refine tz_ne (x := (s 10)) rfl rfl (by omega) (fun h20 => ?_) (fun h20 => ?_)
    · show tt Zi d 130 (15, [some (.inr (.inl 0)), some (.inl a_), some (.inl x), some (.inl y)], [], n, D, s, p, c) _
      refine tt_k 2 (S' := (19, [some (.inr (.inl 0)), some (.inl a_), some (.inl x), some (.inl y)], [.inr (.inl (p 8))], n, D, s, p, c)) rfl ?_
      rw [hp8]
      show tt Zi d 130 (19, [some (.inr (.inl 0)), some (.inl a_), some (.inl x), some (.inl y)], [.inr (.inl 27)], n, D, s, p, c) _
      refine tt_k 3 (S' := (22, [some (.inr (.inl 0)), some (.inl a_), some (.inl x), some (.inl y)], [.inl y, .inl x, .inl a_, .inr (.inl 27)], n, D, s, p, c)) rfl ?_
      have b21 : 0 ≤ (s 2700) ∧ (s 2700) ≤ 64 := hS 2700
      have b22 : 0 ≤ (s 2701) ∧ (s 2701) ≤ 64 := hS 2701
      have b23 : 0 ≤ (s 2702) ∧ (s 2702) ≤ 3 := hS 2702
      refine tt_cl (by omega) rfl (g_has27 (Zi := Zi) (q := q) (n := n) (D := D) (s := s) (p := p) (c := c) (by omega) hz (by omega) hD hS hC hW a_ x y (by omega) (by omega) (by omega)) ?_
      rintro _ _ ⟨r24, rfl, rfl, b25, k26⟩
      show tt Zi d 130 (25, [some (.inr (.inl 0)), some (.inl a_), some (.inl x), some (.inl y)], [.inl r24], n, D, s, p, c) _
      replace k26 : r24 = 1 ↔ ((0 ≤ a_ ∧ a_ < (s 2702)) ∧ (0 ≤ x ∧ x < (s 2700)) ∧ (0 ≤ y ∧ y < (s 2701))) := k26
      refine tz_ne (x := r24) rfl rfl (by omega) (fun h27 => ?_) (fun h27 => ?_)
      · show tt Zi d 130 (36, [some (.inr (.inl 0)), some (.inl a_), some (.inl x), some (.inl y)], [], n, D, s, p, c) _
        refine tt_k 2 (S' := (40, [some (.inr (.inl 0)), some (.inl a_), some (.inl x), some (.inl y)], [.inr (.inl (p 8))], n, D, s, p, c)) rfl ?_
        rw [hp8]
        show tt Zi d 130 (40, [some (.inr (.inl 0)), some (.inl a_), some (.inl x), some (.inl y)], [.inr (.inl 27)], n, D, s, p, c) _
        refine tt_k 3 (S' := (47, [some (.inr (.inl 0)), some (.inl a_), some (.inl x), some (.inl y)], [.inr (.inl (p 8)), .inr (.inl (p 2704))], n, D, s, p, c)) rfl ?_
        rw [hp8]
        show tt Zi d 130 (47, [some (.inr (.inl 0)), some (.inl a_), some (.inl x), some (.inl y)], [.inr (.inl 27), .inr (.inl (p 2704))], n, D, s, p, c) _
        refine tt_k 3 (S' := (50, [some (.inr (.inl 0)), some (.inl a_), some (.inl x), some (.inl y)], [.inl y, .inl x, .inl a_, .inr (.inl 27), .inr (.inl (p 2704))], n, D, s, p, c)) rfl ?_
        have b28 : ln D (p 2704) ≤ 12288 := (hW).p27.2.2
        have b29 := hW.w27
        refine tt_cl (by omega) rfl (g_index27 (Zi := Zi) (q := q) (n := n) (D := D) (s := s) (p := p) (c := c) (by omega) hz (by omega) hD hS hC hW a_ x y (by omega) (by omega) (by omega) (show a_ < (s 2702) ∧ x < (s 2700) ∧ y < (s 2701) by omega)) ?_
        rintro _ _ ⟨r30, rfl, rfl, b31, k32, k33⟩
        show tt Zi d 130 (53, [some (.inr (.inl 0)), some (.inl a_), some (.inl x), some (.inl y)], [.inl r30, .inr (.inl (p 2704))], n, D, s, p, c) _
        replace k32 : r30 = (a_ * (s 2701) + y) * (s 2700) + x := k32
        replace k33 : r30 + (s 2700) - x ≤ (s 2700) * (s 2701) * (s 2702) := k33
        refine tt_ilb (i := r30) (m := (ln D (p 2704))) (lo := 0) (hi := 65535) rfl ((hW).p27.1) (by omega) hC ((hW).p27.2.1) ?_
        intro v34 b35 hvv34
        show tt Zi d 130 (54, [some (.inr (.inl 0)), some (.inl a_), some (.inl x), some (.inl y)], [.inl v34], n, D, s, p, c) _
        exact tt_rti rfl rfl (Or.inl ⟨v34, rfl, by omega, ⟨cX_mono (q := q) (show cX q g s p c [] [] (n, D, s, p, c) from ⟨hS, hC, hW, (fk_rf hD), (show fr s s [] from fr_rf)⟩) (by omega), ((frp_rf : frp p p [104, 400, 600, 900, 901, 1203, 1204, 1205, 2103, 2104, 2105, 2504, 2704]) 8 (by decide))⟩, by first | (simp only [Nat.reduceMul, Nat.reduceAdd]; omega) | (rw [hp8]; simp only [Nat.reduceMul, Nat.reduceAdd]; omega), by (try rw [hp8]); show v34 = c (p 2704) ((a_ * s 2701 + y) * s 2700 + x).toNat; rw [← hvv34, k32]⟩)
      · show tt Zi d 130 (28, [some (.inr (.inl 0)), some (.inl a_), some (.inl x), some (.inl y)], [], n, D, s, p, c) _
        have hn36 := wp_n hW (by omega)
        exact tt_thr (q := (13, 955)) rfl rfl (by decide) (by decide) (by omega) (by omega) (Or.inr (Or.inr ⟨rfl, cXp_mono (q := q + 1) ⟨⟨hS, bC_x hC (hW).dz (by decide), wp_x hW, fk_x (fk_rf hD), (show fr s s [800, 801, 802, 803, 804, 805, 806, 807, 808, 809] from fr_rf)⟩, ((frp_rf : frp p p [104, 400, 600, 900, 901, 1203, 1204, 1205, 2103, 2104, 2105, 2504, 2704]) 8 (by decide))⟩ (by omega), by first | omega | (simp only [Nat.reduceMul, Nat.reduceAdd]; omega) | (rw [hp8]; simp only [Nat.reduceMul, Nat.reduceAdd]; omega)⟩))
    · show tt Zi d 130 (7, [some (.inr (.inl 0)), some (.inl a_), some (.inl x), some (.inl y)], [], n, D, s, p, c) _
      have hn37 := wp_n hW (by omega)
      exact tt_thr (q := (12, 475)) rfl rfl (by decide) (by decide) (by omega) (by omega) (Or.inr (Or.inl ⟨rfl, cXp_mono (q := q + 1) ⟨⟨hS, bC_x hC (hW).dz (by decide), wp_x hW, fk_x (fk_rf hD), (show fr s s [800, 801, 802, 803, 804, 805, 806, 807, 808, 809] from fr_rf)⟩, ((frp_rf : frp p p [104, 400, 600, 900, 901, 1203, 1204, 1205, 2103, 2104, 2105, 2504, 2704]) 8 (by decide))⟩ (by omega), by first | omega | (simp only [Nat.reduceMul, Nat.reduceAdd]; omega) | (rw [hp8]; simp only [Nat.reduceMul, Nat.reduceAdd]; omega)⟩))
set_option maxRecDepth 100000 in
set_option maxHeartbeats 4000000 in
theorem e_learned {g : Nat → Int} {Zi : Nat → Option (Nat × (Nat → Int))} {d n q : Nat} {D : Nat → Nat × Nat} {s : Nat → Int} {p : Nat → Nat} {c : Nat → Nat → Int} (hd : 3 ≤ d) (hz : zk Zi) (hq : q + 6 ≤ 400000) (hD : wd n p) (hS : bS s) (hC : bC D c) (hW : wp q g n D p s) (i : Int) (w_ : Int) (b_i : -2147483648 ≤ i ∧ i ≤ 2147483647) (b_w_ : -2147483648 ≤ w_ ∧ w_ ≤ 2147483647) : tt Zi d 132 (0, [some (.inr (.inl 0)), some (.inl i), some (.inl w_)], [], n, D, s, p, c) (fun R H => (∃ r : Int, R = .inl (some (.inl r)) ∧ (-2147483648 ≤ r ∧ r ≤ 2147483647) ∧ cXp (q + 1) g s p c [] [] H ∧ ((0 ≤ i ∧ i < 367) ∧ (0 ≤ w_ ∧ w_ < 4)) ∧ (r = c (p 900) (4 * i + w_).toNat)) ∨ (R = .inr 13 ∧ cXp (q + 1) g s p c [] [800, 801, 802, 803, 804, 805, 806, 807, 808, 809] H ∧ ¬ (0 ≤ i ∧ i < 367)) ∨ (R = .inr 11 ∧ cXp (q + 1) g s p c [] [800, 801, 802, 803, 804, 805, 806, 807, 808, 809] H ∧ (0 ≤ i ∧ i < 367) ∧ ¬ (0 ≤ w_ ∧ w_ < 4))) := by
  refine tt_k 1 (S' := (1, [some (.inr (.inl 0)), some (.inl i), some (.inl w_)], [.inl i], n, D, s, p, c)) rfl ?_
  refine tz_lt (x := i) rfl rfl (by omega) (fun h1 => ?_) (fun h1 => ?_)
  · show tt Zi d 132 (11, [some (.inr (.inl 0)), some (.inl i), some (.inl w_)], [], n, D, s, p, c) _
    have hn2 := wp_n hW (by omega)
    exact tt_thr (q := (13, 955)) rfl rfl (by decide) (by decide) (by omega) (by omega) (Or.inr (Or.inl ⟨rfl, cXp_mono (q := q + 1) ⟨⟨hS, bC_x hC (hW).dz (by decide), wp_x hW, fk_x (fk_rf hD), (show fr s s [800, 801, 802, 803, 804, 805, 806, 807, 808, 809] from fr_rf)⟩, ((frp_rf : frp p p [104, 400, 600, 900, 901, 1203, 1204, 1205, 2103, 2104, 2105, 2504, 2704]) 8 (by decide))⟩ (by omega), by omega⟩))
  · show tt Zi d 132 (4, [some (.inr (.inl 0)), some (.inl i), some (.inl w_)], [], n, D, s, p, c) _
    refine tt_k 2 (S' := (8, [some (.inr (.inl 0)), some (.inl i), some (.inl w_)], [.inl 367, .inl i], n, D, s, p, c)) rfl ?_
    refine tb_lt (x := i) (y := 367) rfl rfl (by omega) (fun h3 => ?_) (fun h3 => ?_)
    · show tt Zi d 132 (19, [some (.inr (.inl 0)), some (.inl i), some (.inl w_)], [], n, D, s, p, c) _
      refine tt_k 1 (S' := (20, [some (.inr (.inl 0)), some (.inl i), some (.inl w_)], [.inl w_], n, D, s, p, c)) rfl ?_
      refine tz_lt (x := w_) rfl rfl (by omega) (fun h4 => ?_) (fun h4 => ?_)
      · show tt Zi d 132 (28, [some (.inr (.inl 0)), some (.inl i), some (.inl w_)], [], n, D, s, p, c) _
        have hn5 := wp_n hW (by omega)
        exact tt_thr (q := (11, 923)) rfl rfl (by decide) (by decide) (by omega) (by omega) (Or.inr (Or.inr ⟨rfl, cXp_mono (q := q + 1) ⟨⟨hS, bC_x hC (hW).dz (by decide), wp_x hW, fk_x (fk_rf hD), (show fr s s [800, 801, 802, 803, 804, 805, 806, 807, 808, 809] from fr_rf)⟩, ((frp_rf : frp p p [104, 400, 600, 900, 901, 1203, 1204, 1205, 2103, 2104, 2105, 2504, 2704]) 8 (by decide))⟩ (by omega), by omega⟩))
      · show tt Zi d 132 (23, [some (.inr (.inl 0)), some (.inl i), some (.inl w_)], [], n, D, s, p, c) _
        refine tt_k 2 (S' := (25, [some (.inr (.inl 0)), some (.inl i), some (.inl w_)], [.inl 4, .inl w_], n, D, s, p, c)) rfl ?_
        refine tb_lt (x := w_) (y := 4) rfl rfl (by omega) (fun h6 => ?_) (fun h6 => ?_)
        · show tt Zi d 132 (36, [some (.inr (.inl 0)), some (.inl i), some (.inl w_)], [], n, D, s, p, c) _
          refine tt_k 8 (S' := (48, [some (.inr (.inl 0)), some (.inl i), some (.inl w_)], [.inl ((4 * i) + w_), .inr (.inl (p 900))], n, D, s, p, c)) rfl ?_
          refine tt_ilb (i := ((4 * i) + w_)) (m := 1468) (lo := -2147483648) (hi := 2147483647) rfl ((sw_arr (hW).m9 rfl rfl).1) (by omega) hC ((sw_now (hW).m9).1) ?_
          intro v7 b8 hvv7
          show tt Zi d 132 (49, [some (.inr (.inl 0)), some (.inl i), some (.inl w_)], [.inl v7], n, D, s, p, c) _
          exact tt_rti rfl rfl (Or.inl ⟨v7, rfl, by omega, ⟨cX_mono (q := q) (show cX q g s p c [] [] (n, D, s, p, c) from ⟨hS, hC, hW, (fk_rf hD), (show fr s s [] from fr_rf)⟩) (by omega), ((frp_rf : frp p p [104, 400, 600, 900, 901, 1203, 1204, 1205, 2103, 2104, 2105, 2504, 2704]) 8 (by decide))⟩, by omega, by rw [← hvv7]⟩)
        · show tt Zi d 132 (28, [some (.inr (.inl 0)), some (.inl i), some (.inl w_)], [], n, D, s, p, c) _
          have hn9 := wp_n hW (by omega)
          exact tt_thr (q := (11, 923)) rfl rfl (by decide) (by decide) (by omega) (by omega) (Or.inr (Or.inr ⟨rfl, cXp_mono (q := q + 1) ⟨⟨hS, bC_x hC (hW).dz (by decide), wp_x hW, fk_x (fk_rf hD), (show fr s s [800, 801, 802, 803, 804, 805, 806, 807, 808, 809] from fr_rf)⟩, ((frp_rf : frp p p [104, 400, 600, 900, 901, 1203, 1204, 1205, 2103, 2104, 2105, 2504, 2704]) 8 (by decide))⟩ (by omega), by omega⟩))
    · show tt Zi d 132 (11, [some (.inr (.inl 0)), some (.inl i), some (.inl w_)], [], n, D, s, p, c) _
      have hn10 := wp_n hW (by omega)
      exact tt_thr (q := (13, 955)) rfl rfl (by decide) (by decide) (by omega) (by omega) (Or.inr (Or.inl ⟨rfl, cXp_mono (q := q + 1) ⟨⟨hS, bC_x hC (hW).dz (by decide), wp_x hW, fk_x (fk_rf hD), (show fr s s [800, 801, 802, 803, 804, 805, 806, 807, 808, 809] from fr_rf)⟩, ((frp_rf : frp p p [104, 400, 600, 900, 901, 1203, 1204, 1205, 2103, 2104, 2105, 2504, 2704]) 8 (by decide))⟩ (by omega), by omega⟩))
