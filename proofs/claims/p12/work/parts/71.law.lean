/-! the law's loop -/
def cV (q : Nat) (H : mi_H) : Prop := bS H.2.2.1 ∧ bC H.2.1 H.2.2.2.2 ∧ wp q H.2.2.1 H.1 H.2.1 H.2.2.2.1 H.2.2.1 ∧ wd H.1 H.2.2.2.1
def tie (s : Nat → Int) : Prop := s 100 = s 3001 ∧ s 101 = s 3002 ∧ s 102 = s 3003 ∧ s 103 = s 3004
def lawQ : mi_Rs → mi_H → Prop := fun R H => R = .inl (some (.inl 1)) ∧ ∃ g, cW 520 g H
set_option maxRecDepth 100000 in
set_option maxHeartbeats 8000000 in
theorem law_L {Zi : Nat → Option (Nat × (Nat → Int))} {L : Nat} {xs : Nat → Int} (hz : zk Zi) (hs : Zi 4 = some (L, xs)) (hxs : ∀ i, -2147483648 ≤ xs i ∧ xs i ≤ 2147483647) (hL : L ≤ 4608) : ∀ (m q : Nat) (i : Int) (o5 o6 : Option mi_V) (H : mi_H), cV q H → tie H.2.2.1 → tiS H.2.2.1 H.2.2.2.1 H.2.2.2.2 → tiQ H.2.2.1 H.2.2.2.1 H.2.2.2.2 → 0 ≤ i → 9 * (q : Int) ≤ i → i ≤ 4617 → (4700 - i).toNat < m → tt Zi 12 0 (23, [some (.inr (.inl 1000004)), some (.inr (.inl 0)), some (.inr (.inl 30)), some (.inr (.inl 47)), some (.inl i), o5, o6], [], H) lawQ := by
  intro m
  induction m with
  | zero => intro q i o5 o6 H _ _ _ _ _ _ _ h; exact absurd h (by omega)
  | succ m ih =>
    intro q i o5 o6 H hH ht tS hQ hi0 hq hi1 hm
    obtain ⟨n, D, s, p, c⟩ := H
    have hS : bS s := hH.1
    have hC : bC D c := hH.2.1
    have hW : wp q s n D p s := hH.2.2.1
    have hD : wd n p := hH.2.2.2
    have tS : tiS s p c := tS
    have hQ : tiQ s p c := hQ
    obtain ⟨E, hcE, hrE⟩ := tS
    have ht : tie s := ht
    unfold tie at ht
    have hd : 12 ≤ 12 := Nat.le_refl 12
    refine tt_k 2 (S' := (26, [some (.inr (.inl 1000004)), some (.inr (.inl 0)), some (.inr (.inl 30)), some (.inr (.inl 47)), some (.inl i), o5, o6], [.inr (.inl 1000004), .inl i], n, D, s, p, c)) rfl ?_
    refine tt_lno (j := 4) rfl hs ?_
    show tt Zi 12 0 (27, [some (.inr (.inl 1000004)), some (.inr (.inl 0)), some (.inr (.inl 30)), some (.inr (.inl 47)), some (.inl i), o5, o6], [.inl (L : Int), .inl i], n, D, s, p, c) _
    refine tt_k 2 (S' := (30, [some (.inr (.inl 1000004)), some (.inr (.inl 0)), some (.inr (.inl 30)), some (.inr (.inl 47)), some (.inl i), o5, o6], [.inl ((L : Int) - 9), .inl i], n, D, s, p, c)) rfl ?_
    refine tb_gt (x := i) (y := ((L : Int) - 9)) rfl rfl (by omega) (fun h1 => ?_) (fun h1 => ?_)
    · show tt Zi 12 0 (827, [some (.inr (.inl 1000004)), some (.inr (.inl 0)), some (.inr (.inl 30)), some (.inr (.inl 47)), some (.inl i), o5, o6], [], n, D, s, p, c) _
      refine tt_k 1 (S' := (828, [some (.inr (.inl 1000004)), some (.inr (.inl 0)), some (.inr (.inl 30)), some (.inr (.inl 47)), some (.inl i), o5, o6], [.inl 1], n, D, s, p, c)) rfl ?_
      exact tt_rtb rfl rfl (by omega) ⟨rfl, _, cW_mono (q := q) ⟨hS, hC, hW⟩ (by omega)⟩
    · show tt Zi 12 0 (33, [some (.inr (.inl 1000004)), some (.inr (.inl 0)), some (.inr (.inl 30)), some (.inr (.inl 47)), some (.inl i), o5, o6], [], n, D, s, p, c) _
      refine tt_k 2 (S' := (36, [some (.inr (.inl 1000004)), some (.inr (.inl 0)), some (.inr (.inl 30)), some (.inr (.inl 47)), some (.inl i), o5, o6], [.inl i, .inr (.inl 1000004)], n, D, s, p, c)) rfl ?_
      refine tt_stat (j := 4) (i := i) rfl hs (by omega) ?_
      show tt Zi 12 0 (37, [some (.inr (.inl 1000004)), some (.inr (.inl 0)), some (.inr (.inl 30)), some (.inr (.inl 47)), some (.inl i), o5, o6], [.inl (xs (i).toNat)], n, D, s, p, c) _
      have b2 := hxs (i).toNat
      refine tt_k 2 (S' := (40, [some (.inr (.inl 1000004)), some (.inr (.inl 0)), some (.inr (.inl 30)), some (.inr (.inl 47)), some (.inl i), o5, o6], [.inl ((mi_and (xs (i).toNat) 15))], n, D, s, p, c)) rfl ?_
      have e3 := mi_and15 (xs (i).toNat)
      by_cases h4 : (mi_and (xs (i).toNat) 15) = 0
      · have h5 := h4
        refine tt_tsw (x := (mi_and (xs (i).toNat) 15)) (off := 80) rfl (by omega) (by omega) (by rw [h4]; rfl) rfl ?_
        show tt Zi 12 0 (120, [some (.inr (.inl 1000004)), some (.inr (.inl 0)), some (.inr (.inl 30)), some (.inr (.inl 47)), some (.inl i), o5, o6], [], n, D, s, p, c) _
        refine tt_k 5 (S' := (126, [some (.inr (.inl 1000004)), some (.inr (.inl 0)), some (.inr (.inl 30)), some (.inr (.inl 47)), some (.inl i), o5, o6], [.inl (i + 1), .inr (.inl 1000004), .inr (.inl 0)], n, D, s, p, c)) rfl ?_
        refine tt_stat (j := 4) (i := (i + 1)) rfl hs (by omega) ?_
        show tt Zi 12 0 (127, [some (.inr (.inl 1000004)), some (.inr (.inl 0)), some (.inr (.inl 30)), some (.inr (.inl 47)), some (.inl i), o5, o6], [.inl ((xs ((i + 1)).toNat)), .inr (.inl 0)], n, D, s, p, c) _
        have b6 := hxs ((i + 1)).toNat
        refine tt_k 4 (S' := (132, [some (.inr (.inl 1000004)), some (.inr (.inl 0)), some (.inr (.inl 30)), some (.inr (.inl 47)), some (.inl i), o5, o6], [.inl (i + 2), .inr (.inl 1000004), .inl ((xs ((i + 1)).toNat)), .inr (.inl 0)], n, D, s, p, c)) rfl ?_
        refine tt_stat (j := 4) (i := (i + 2)) rfl hs (by omega) ?_
        show tt Zi 12 0 (133, [some (.inr (.inl 1000004)), some (.inr (.inl 0)), some (.inr (.inl 30)), some (.inr (.inl 47)), some (.inl i), o5, o6], [.inl ((xs ((i + 2)).toNat)), .inl ((xs ((i + 1)).toNat)), .inr (.inl 0)], n, D, s, p, c) _
        have b7 := hxs ((i + 2)).toNat
        refine tt_k 4 (S' := (138, [some (.inr (.inl 1000004)), some (.inr (.inl 0)), some (.inr (.inl 30)), some (.inr (.inl 47)), some (.inl i), o5, o6], [.inl (i + 3), .inr (.inl 1000004), .inl ((xs ((i + 2)).toNat)), .inl ((xs ((i + 1)).toNat)), .inr (.inl 0)], n, D, s, p, c)) rfl ?_
        refine tt_stat (j := 4) (i := (i + 3)) rfl hs (by omega) ?_
        show tt Zi 12 0 (139, [some (.inr (.inl 1000004)), some (.inr (.inl 0)), some (.inr (.inl 30)), some (.inr (.inl 47)), some (.inl i), o5, o6], [.inl ((xs ((i + 3)).toNat)), .inl ((xs ((i + 2)).toNat)), .inl ((xs ((i + 1)).toNat)), .inr (.inl 0)], n, D, s, p, c) _
        have b8 := hxs ((i + 3)).toNat
        refine tt_k 4 (S' := (144, [some (.inr (.inl 1000004)), some (.inr (.inl 0)), some (.inr (.inl 30)), some (.inr (.inl 47)), some (.inl i), o5, o6], [.inl (i + 4), .inr (.inl 1000004), .inl ((xs ((i + 3)).toNat)), .inl ((xs ((i + 2)).toNat)), .inl ((xs ((i + 1)).toNat)), .inr (.inl 0)], n, D, s, p, c)) rfl ?_
        refine tt_stat (j := 4) (i := (i + 4)) rfl hs (by omega) ?_
        show tt Zi 12 0 (145, [some (.inr (.inl 1000004)), some (.inr (.inl 0)), some (.inr (.inl 30)), some (.inr (.inl 47)), some (.inl i), o5, o6], [.inl ((xs ((i + 4)).toNat)), .inl ((xs ((i + 3)).toNat)), .inl ((xs ((i + 2)).toNat)), .inl ((xs ((i + 1)).toNat)), .inr (.inl 0)], n, D, s, p, c) _
        have b9 := hxs ((i + 4)).toNat
        refine tt_cl (by omega) rfl (h_canvas (Zi := Zi) (q := q) (n := n) (D := D) (s := s) (p := p) (c := c) (by omega) hz (by omega) hD hS hC (wp_rg hW) ((xs ((i + 1)).toNat)) ((xs ((i + 2)).toNat)) ((xs ((i + 3)).toNat)) ((xs ((i + 4)).toNat)) (by omega) (by omega) (by omega) (by omega)) ?_
        rintro _ ⟨n10, D11, s12, p13, c14⟩ ⟨r16, rfl, b17, hY15, k18, k19, k20, k21⟩
        have hS12 : bS s12 := hY15.1
        have hC14 : bC D11 c14 := hY15.2.1
        have hW13 : wp _ _ n10 D11 p13 s12 := hY15.2.2.1
        have FKc : fk p c n10 p13 c14 [3, 104] := hY15.2.2.2.1
        have FFc : fr s s12 [100, 101, 102, 103, 800, 801, 802, 803, 804, 805, 806, 807, 808, 809, 902, 1705, 1706, 2001, 2002, 2003, 2004, 2005, 2006, 2106, 2107, 2108, 2109, 2110, 2111, 2112, 2113, 2114, 2115, 2116, 2500, 2501, 2502, 2503, 2700, 2701, 2702, 2703] := hY15.2.2.2.2
        replace k18 : (r16 = 0 ∧ (1 ≤ ((xs ((i + 1)).toNat)) ∧ ((xs ((i + 1)).toNat)) ≤ 64) ∧ (1 ≤ ((xs ((i + 2)).toNat)) ∧ ((xs ((i + 2)).toNat)) ≤ 64) ∧ (((xs ((i + 3)).toNat)) = 1 ∨ ((xs ((i + 3)).toNat)) = 3) ∧ (2 ≤ ((xs ((i + 4)).toNat)) ∧ ((xs ((i + 4)).toNat)) ≤ 16)) ∨ (r16 = 1 ∧ ¬ ((1 ≤ ((xs ((i + 1)).toNat)) ∧ ((xs ((i + 1)).toNat)) ≤ 64) ∧ (1 ≤ ((xs ((i + 2)).toNat)) ∧ ((xs ((i + 2)).toNat)) ≤ 64) ∧ (((xs ((i + 3)).toNat)) = 1 ∨ ((xs ((i + 3)).toNat)) = 3) ∧ (2 ≤ ((xs ((i + 4)).toNat)) ∧ ((xs ((i + 4)).toNat)) ≤ 16))) := k18
        replace k21 : r16 ≠ 0 → fk p c n10 p13 c14 [] := k21
        show tt Zi 12 0 (148, [some (.inr (.inl 1000004)), some (.inr (.inl 0)), some (.inr (.inl 30)), some (.inr (.inl 47)), some (.inl i), o5, o6], [.inl r16], n10, D11, s12, p13, c14) _
        have tc100 : s12 100 = if r16 = 0 then (xs ((i + 1)).toNat) else (s 100) := gz_if (hW13.gz 100 rfl)
        have tc101 : s12 101 = if r16 = 0 then (xs ((i + 2)).toNat) else (s 101) := gz_if (hW13.gz 101 rfl)
        have tc102 : s12 102 = if r16 = 0 then (xs ((i + 3)).toNat) else (s 102) := gz_if (hW13.gz 102 rfl)
        have tc103 : s12 103 = if r16 = 0 then (xs ((i + 4)).toNat) else (s 103) := gz_if (hW13.gz 103 rfl)
        have tc3001 : s12 3001 = (s 3001) := gz_is (hW13.gz 3001 rfl) rfl
        have tc3002 : s12 3002 = (s 3002) := gz_is (hW13.gz 3002 rfl) rfl
        have tc3003 : s12 3003 = (s 3003) := gz_is (hW13.gz 3003 rfl) rfl
        have tc3004 : s12 3004 = (s 3004) := gz_is (hW13.gz 3004 rfl) rfl
        refine tt_k 6 (S' := (156, [some (.inr (.inl 1000004)), some (.inr (.inl 0)), some (.inr (.inl 30)), some (.inr (.inl 47)), some (.inl i), some (.inl r16), o6], [.inl (i + 1), .inr (.inl 1000004), .inr (.inl 30)], n10, D11, s12, p13, c14)) rfl ?_
        refine tt_stat (j := 4) (i := (i + 1)) rfl hs (by omega) ?_
        show tt Zi 12 0 (157, [some (.inr (.inl 1000004)), some (.inr (.inl 0)), some (.inr (.inl 30)), some (.inr (.inl 47)), some (.inl i), some (.inl r16), o6], [.inl ((xs ((i + 1)).toNat)), .inr (.inl 30)], n10, D11, s12, p13, c14) _
        refine tt_k 4 (S' := (162, [some (.inr (.inl 1000004)), some (.inr (.inl 0)), some (.inr (.inl 30)), some (.inr (.inl 47)), some (.inl i), some (.inl r16), o6], [.inl (i + 2), .inr (.inl 1000004), .inl ((xs ((i + 1)).toNat)), .inr (.inl 30)], n10, D11, s12, p13, c14)) rfl ?_
        refine tt_stat (j := 4) (i := (i + 2)) rfl hs (by omega) ?_
        show tt Zi 12 0 (163, [some (.inr (.inl 1000004)), some (.inr (.inl 0)), some (.inr (.inl 30)), some (.inr (.inl 47)), some (.inl i), some (.inl r16), o6], [.inl ((xs ((i + 2)).toNat)), .inl ((xs ((i + 1)).toNat)), .inr (.inl 30)], n10, D11, s12, p13, c14) _
        refine tt_k 4 (S' := (168, [some (.inr (.inl 1000004)), some (.inr (.inl 0)), some (.inr (.inl 30)), some (.inr (.inl 47)), some (.inl i), some (.inl r16), o6], [.inl (i + 3), .inr (.inl 1000004), .inl ((xs ((i + 2)).toNat)), .inl ((xs ((i + 1)).toNat)), .inr (.inl 30)], n10, D11, s12, p13, c14)) rfl ?_
        refine tt_stat (j := 4) (i := (i + 3)) rfl hs (by omega) ?_
        show tt Zi 12 0 (169, [some (.inr (.inl 1000004)), some (.inr (.inl 0)), some (.inr (.inl 30)), some (.inr (.inl 47)), some (.inl i), some (.inl r16), o6], [.inl ((xs ((i + 3)).toNat)), .inl ((xs ((i + 2)).toNat)), .inl ((xs ((i + 1)).toNat)), .inr (.inl 30)], n10, D11, s12, p13, c14) _
        refine tt_k 4 (S' := (174, [some (.inr (.inl 1000004)), some (.inr (.inl 0)), some (.inr (.inl 30)), some (.inr (.inl 47)), some (.inl i), some (.inl r16), o6], [.inl (i + 4), .inr (.inl 1000004), .inl ((xs ((i + 3)).toNat)), .inl ((xs ((i + 2)).toNat)), .inl ((xs ((i + 1)).toNat)), .inr (.inl 30)], n10, D11, s12, p13, c14)) rfl ?_
        refine tt_stat (j := 4) (i := (i + 4)) rfl hs (by omega) ?_
        show tt Zi 12 0 (175, [some (.inr (.inl 1000004)), some (.inr (.inl 0)), some (.inr (.inl 30)), some (.inr (.inl 47)), some (.inl i), some (.inl r16), o6], [.inl ((xs ((i + 4)).toNat)), .inl ((xs ((i + 3)).toNat)), .inl ((xs ((i + 2)).toNat)), .inl ((xs ((i + 1)).toNat)), .inr (.inl 30)], n10, D11, s12, p13, c14) _
        refine tt_cl (by omega) rfl (k_canvas2 (Zi := Zi) (D := D11) (s := s12) (p := p13) (c := c14) (by omega) hS12 hC14 ((xs ((i + 1)).toNat)) ((xs ((i + 2)).toNat)) ((xs ((i + 3)).toNat)) ((xs ((i + 4)).toNat)) (by omega) (by omega) (by omega) (by omega)) ?_
        rintro _ _ ⟨s22, c23, rfl, rfl, hS22, hC23, f24, g25, k26, k27, k28, k29, k30, k31, k32⟩
        have hW33 := wp_rf f24 (by decide) hW13
        show tt Zi 12 0 (178, [some (.inr (.inl 1000004)), some (.inr (.inl 0)), some (.inr (.inl 30)), some (.inr (.inl 47)), some (.inl i), some (.inl r16), o6], [], n10, D11, s22, p13, c23) _
        have te100 : s22 100 = (s12 100) := f24 100 (by decide)
        have te101 : s22 101 = (s12 101) := f24 101 (by decide)
        have te102 : s22 102 = (s12 102) := f24 102 (by decide)
        have te103 : s22 103 = (s12 103) := f24 103 (by decide)
        have ht2 : tie s22 := by
          by_cases hc : (1 ≤ (xs ((i + 1)).toNat) ∧ (xs ((i + 1)).toNat) ≤ 64) ∧ (1 ≤ (xs ((i + 2)).toNat) ∧ (xs ((i + 2)).toNat) ≤ 64) ∧ ((xs ((i + 3)).toNat) = 1 ∨ (xs ((i + 3)).toNat) = 3) ∧ (2 ≤ (xs ((i + 4)).toNat) ∧ (xs ((i + 4)).toNat) ≤ 16)
          · rcases k18 with ⟨er, _⟩ | ⟨er, hn⟩
            · rw [if_pos hc] at k27 k28 k29 k30
              rw [if_pos er] at tc100 tc101 tc102 tc103
              exact ⟨te100.trans (tc100.trans k27.symm), te101.trans (tc101.trans k28.symm), te102.trans (tc102.trans k29.symm), te103.trans (tc103.trans k30.symm)⟩
            · exact absurd hc hn
          · rcases k18 with ⟨er, hn⟩ | ⟨er, _⟩
            · exact absurd hn hc
            · have er2 : ¬ r16 = 0 := by rw [er]; decide
              rw [if_neg hc] at k27 k28 k29 k30
              rw [if_neg er2] at tc100 tc101 tc102 tc103
              exact ⟨te100.trans (tc100.trans (ht.1.trans (tc3001.symm.trans k27.symm))), te101.trans (tc101.trans (ht.2.1.trans (tc3002.symm.trans k28.symm))), te102.trans (tc102.trans (ht.2.2.1.trans (tc3003.symm.trans k29.symm))), te103.trans (tc103.trans (ht.2.2.2.trans (tc3004.symm.trans k30.symm)))⟩
        have tS2 : tiS s22 p13 c23 := tiS_cn hcE hrE FKc k18 k19 k21 g25 k31 (te100.trans tc100) (te101.trans tc101) (te102.trans tc102)
        have FKr := fk_rc FKc.1 g25 (by decide)
        have q1 : tqC c23 := tqC_cn hQ.1 FKc k18 k20 k21 g25 k32
        have q2 : tqW s22 := tqW_f (tqW_f hQ.2.1 FFc (by decide)) f24 (by decide)
        have q3 : tqP s22 p13 c23 := tqP_f hQ.2.2.1 FKc FKr (by decide) FFc (by decide) f24 (by decide)
        have q4 : tqT s22 := tqT_f (tqT_f hQ.2.2.2 FFc (by decide)) f24 (by decide)
        have tQ2 : tiQ s22 p13 c23 := ⟨q1, q2, q3, q4⟩
        clear k27 k28 k29 k30 k31 k32 tc100 tc101 tc102 tc103 tc3001 tc3002 tc3003 tc3004 te100 te101 te102 te103
        refine tt_k 3 (S' := (23, [some (.inr (.inl 1000004)), some (.inr (.inl 0)), some (.inr (.inl 30)), some (.inr (.inl 47)), some (.inl (i + 9)), some (.inl r16), o6], [], n10, D11, s22, p13, c23)) rfl ?_
        exact ih (q + 1) (i + 9) (some (.inl r16)) (o6) (n10, D11, s22, p13, c23) ⟨hS22, hC23, (wp_rg hW33), FKr.1⟩ ht2 tS2 tQ2 (by omega) (by omega) (by omega) (by omega)
      by_cases h34 : (mi_and (xs (i).toNat) 15) = 1
      · have h35 := h34
        refine tt_tsw (x := (mi_and (xs (i).toNat) 15)) (off := 141) rfl (by omega) (by omega) (by rw [h34]; rfl) rfl ?_
        show tt Zi 12 0 (181, [some (.inr (.inl 1000004)), some (.inr (.inl 0)), some (.inr (.inl 30)), some (.inr (.inl 47)), some (.inl i), o5, o6], [], n, D, s, p, c) _
        refine tt_k 5 (S' := (187, [some (.inr (.inl 1000004)), some (.inr (.inl 0)), some (.inr (.inl 30)), some (.inr (.inl 47)), some (.inl i), o5, o6], [.inl (i + 1), .inr (.inl 1000004), .inr (.inl 0)], n, D, s, p, c)) rfl ?_
        refine tt_stat (j := 4) (i := (i + 1)) rfl hs (by omega) ?_
        show tt Zi 12 0 (188, [some (.inr (.inl 1000004)), some (.inr (.inl 0)), some (.inr (.inl 30)), some (.inr (.inl 47)), some (.inl i), o5, o6], [.inl ((xs ((i + 1)).toNat)), .inr (.inl 0)], n, D, s, p, c) _
        have b36 := hxs ((i + 1)).toNat
        refine tt_k 4 (S' := (193, [some (.inr (.inl 1000004)), some (.inr (.inl 0)), some (.inr (.inl 30)), some (.inr (.inl 47)), some (.inl i), o5, o6], [.inl (i + 2), .inr (.inl 1000004), .inl ((xs ((i + 1)).toNat)), .inr (.inl 0)], n, D, s, p, c)) rfl ?_
        refine tt_stat (j := 4) (i := (i + 2)) rfl hs (by omega) ?_
        show tt Zi 12 0 (194, [some (.inr (.inl 1000004)), some (.inr (.inl 0)), some (.inr (.inl 30)), some (.inr (.inl 47)), some (.inl i), o5, o6], [.inl ((xs ((i + 2)).toNat)), .inl ((xs ((i + 1)).toNat)), .inr (.inl 0)], n, D, s, p, c) _
        have b37 := hxs ((i + 2)).toNat
        refine tt_k 4 (S' := (199, [some (.inr (.inl 1000004)), some (.inr (.inl 0)), some (.inr (.inl 30)), some (.inr (.inl 47)), some (.inl i), o5, o6], [.inl (i + 3), .inr (.inl 1000004), .inl ((xs ((i + 2)).toNat)), .inl ((xs ((i + 1)).toNat)), .inr (.inl 0)], n, D, s, p, c)) rfl ?_
        refine tt_stat (j := 4) (i := (i + 3)) rfl hs (by omega) ?_
        show tt Zi 12 0 (200, [some (.inr (.inl 1000004)), some (.inr (.inl 0)), some (.inr (.inl 30)), some (.inr (.inl 47)), some (.inl i), o5, o6], [.inl ((xs ((i + 3)).toNat)), .inl ((xs ((i + 2)).toNat)), .inl ((xs ((i + 1)).toNat)), .inr (.inl 0)], n, D, s, p, c) _
        have b38 := hxs ((i + 3)).toNat
        refine tt_k 4 (S' := (205, [some (.inr (.inl 1000004)), some (.inr (.inl 0)), some (.inr (.inl 30)), some (.inr (.inl 47)), some (.inl i), o5, o6], [.inl (i + 4), .inr (.inl 1000004), .inl ((xs ((i + 3)).toNat)), .inl ((xs ((i + 2)).toNat)), .inl ((xs ((i + 1)).toNat)), .inr (.inl 0)], n, D, s, p, c)) rfl ?_
        refine tt_stat (j := 4) (i := (i + 4)) rfl hs (by omega) ?_
        show tt Zi 12 0 (206, [some (.inr (.inl 1000004)), some (.inr (.inl 0)), some (.inr (.inl 30)), some (.inr (.inl 47)), some (.inl i), o5, o6], [.inl ((xs ((i + 4)).toNat)), .inl ((xs ((i + 3)).toNat)), .inl ((xs ((i + 2)).toNat)), .inl ((xs ((i + 1)).toNat)), .inr (.inl 0)], n, D, s, p, c) _
        have b39 := hxs ((i + 4)).toNat
        refine tt_k 4 (S' := (211, [some (.inr (.inl 1000004)), some (.inr (.inl 0)), some (.inr (.inl 30)), some (.inr (.inl 47)), some (.inl i), o5, o6], [.inl (i + 5), .inr (.inl 1000004), .inl ((xs ((i + 4)).toNat)), .inl ((xs ((i + 3)).toNat)), .inl ((xs ((i + 2)).toNat)), .inl ((xs ((i + 1)).toNat)), .inr (.inl 0)], n, D, s, p, c)) rfl ?_
        refine tt_stat (j := 4) (i := (i + 5)) rfl hs (by omega) ?_
        show tt Zi 12 0 (212, [some (.inr (.inl 1000004)), some (.inr (.inl 0)), some (.inr (.inl 30)), some (.inr (.inl 47)), some (.inl i), o5, o6], [.inl ((xs ((i + 5)).toNat)), .inl ((xs ((i + 4)).toNat)), .inl ((xs ((i + 3)).toNat)), .inl ((xs ((i + 2)).toNat)), .inl ((xs ((i + 1)).toNat)), .inr (.inl 0)], n, D, s, p, c) _
        have b40 := hxs ((i + 5)).toNat
        refine tt_k 4 (S' := (218, [some (.inr (.inl 1000004)), some (.inr (.inl 0)), some (.inr (.inl 30)), some (.inr (.inl 47)), some (.inl i), o5, o6], [.inl (i + 6), .inr (.inl 1000004), .inl ((xs ((i + 5)).toNat)), .inl ((xs ((i + 4)).toNat)), .inl ((xs ((i + 3)).toNat)), .inl ((xs ((i + 2)).toNat)), .inl ((xs ((i + 1)).toNat)), .inr (.inl 0)], n, D, s, p, c)) rfl ?_
        refine tt_stat (j := 4) (i := (i + 6)) rfl hs (by omega) ?_
        show tt Zi 12 0 (219, [some (.inr (.inl 1000004)), some (.inr (.inl 0)), some (.inr (.inl 30)), some (.inr (.inl 47)), some (.inl i), o5, o6], [.inl ((xs ((i + 6)).toNat)), .inl ((xs ((i + 5)).toNat)), .inl ((xs ((i + 4)).toNat)), .inl ((xs ((i + 3)).toNat)), .inl ((xs ((i + 2)).toNat)), .inl ((xs ((i + 1)).toNat)), .inr (.inl 0)], n, D, s, p, c) _
        have b41 := hxs ((i + 6)).toNat
        refine tt_k 4 (S' := (225, [some (.inr (.inl 1000004)), some (.inr (.inl 0)), some (.inr (.inl 30)), some (.inr (.inl 47)), some (.inl i), o5, o6], [.inl (i + 7), .inr (.inl 1000004), .inl ((xs ((i + 6)).toNat)), .inl ((xs ((i + 5)).toNat)), .inl ((xs ((i + 4)).toNat)), .inl ((xs ((i + 3)).toNat)), .inl ((xs ((i + 2)).toNat)), .inl ((xs ((i + 1)).toNat)), .inr (.inl 0)], n, D, s, p, c)) rfl ?_
        refine tt_stat (j := 4) (i := (i + 7)) rfl hs (by omega) ?_
        show tt Zi 12 0 (226, [some (.inr (.inl 1000004)), some (.inr (.inl 0)), some (.inr (.inl 30)), some (.inr (.inl 47)), some (.inl i), o5, o6], [.inl ((xs ((i + 7)).toNat)), .inl ((xs ((i + 6)).toNat)), .inl ((xs ((i + 5)).toNat)), .inl ((xs ((i + 4)).toNat)), .inl ((xs ((i + 3)).toNat)), .inl ((xs ((i + 2)).toNat)), .inl ((xs ((i + 1)).toNat)), .inr (.inl 0)], n, D, s, p, c) _
        have b42 := hxs ((i + 7)).toNat
        refine tt_k 4 (S' := (232, [some (.inr (.inl 1000004)), some (.inr (.inl 0)), some (.inr (.inl 30)), some (.inr (.inl 47)), some (.inl i), o5, o6], [.inl (i + 8), .inr (.inl 1000004), .inl ((xs ((i + 7)).toNat)), .inl ((xs ((i + 6)).toNat)), .inl ((xs ((i + 5)).toNat)), .inl ((xs ((i + 4)).toNat)), .inl ((xs ((i + 3)).toNat)), .inl ((xs ((i + 2)).toNat)), .inl ((xs ((i + 1)).toNat)), .inr (.inl 0)], n, D, s, p, c)) rfl ?_
        refine tt_stat (j := 4) (i := (i + 8)) rfl hs (by omega) ?_
        show tt Zi 12 0 (233, [some (.inr (.inl 1000004)), some (.inr (.inl 0)), some (.inr (.inl 30)), some (.inr (.inl 47)), some (.inl i), o5, o6], [.inl ((xs ((i + 8)).toNat)), .inl ((xs ((i + 7)).toNat)), .inl ((xs ((i + 6)).toNat)), .inl ((xs ((i + 5)).toNat)), .inl ((xs ((i + 4)).toNat)), .inl ((xs ((i + 3)).toNat)), .inl ((xs ((i + 2)).toNat)), .inl ((xs ((i + 1)).toNat)), .inr (.inl 0)], n, D, s, p, c) _
        have b43 := hxs ((i + 8)).toNat
        refine tt_cl (by omega) rfl (h_draw (Zi := Zi) (q := q) (n := n) (D := D) (s := s) (p := p) (c := c) (by omega) hz (by omega) hD hS hC (wp_rg hW) E ((xs ((i + 1)).toNat)) ((xs ((i + 2)).toNat)) ((xs ((i + 3)).toNat)) ((xs ((i + 4)).toNat)) ((xs ((i + 5)).toNat)) ((xs ((i + 6)).toNat)) ((xs ((i + 7)).toNat)) ((xs ((i + 8)).toNat)) (by omega) (by omega) (by omega) (by omega) (by omega) (by omega) (by omega) (by omega) hcE) ?_
        rintro _ ⟨n44, D45, s46, p47, c48⟩ ⟨r50, rfl, b51, hY49, k52, k53, k54⟩
        have hS46 : bS s46 := hY49.1
        have hC48 : bC D45 c48 := hY49.2.1
        have hW47 : wp _ _ n44 D45 p47 s46 := hY49.2.2.1
        have FKc : fk p c n44 p47 c48 [104] := hY49.2.2.2.1
        have FFc : fr s s46 [800, 801, 802, 803, 804, 805, 806, 807, 808, 809, 902, 1705, 1706, 2001, 2002, 2003, 2004, 2005, 2006, 2106, 2107, 2108, 2109, 2110, 2111, 2112, 2113, 2114, 2115, 2116, 2500, 2501, 2502, 2503, 2700, 2701, 2702, 2703] := hY49.2.2.2.2
        replace k52 : dwP r50 ((xs ((i + 1)).toNat)) ((xs ((i + 2)).toNat)) ((xs ((i + 3)).toNat)) ((xs ((i + 4)).toNat)) ((xs ((i + 5)).toNat)) ((xs ((i + 6)).toNat)) ((xs ((i + 7)).toNat)) ((xs ((i + 8)).toNat)) (s 100) (s 101) (s 102) (s 103) := k52
        replace k53 : r50 = 0 → cv (dE E ((xs ((i + 1)).toNat)) ((xs ((i + 2)).toNat)) ((xs ((i + 3)).toNat)) ((xs ((i + 4)).toNat)) ((xs ((i + 5)).toNat)) ((xs ((i + 6)).toNat)) ((xs ((i + 7)).toNat)) ((xs ((i + 8)).toNat)) (mi_shl 1 (s 103) - 1) ((xs ((i + 5)).toNat)) 0) (s 100) (s 101) (s 102) (c48 (p47 104)) := k53
        replace k54 : r50 ≠ 0 → fk p c n44 p47 c48 [] := k54
        show tt Zi 12 0 (236, [some (.inr (.inl 1000004)), some (.inr (.inl 0)), some (.inr (.inl 30)), some (.inr (.inl 47)), some (.inl i), o5, o6], [.inl r50], n44, D45, s46, p47, c48) _
        have tc100 : s46 100 = (s 100) := hW47.gz 100 rfl
        have tc101 : s46 101 = (s 101) := hW47.gz 101 rfl
        have tc102 : s46 102 = (s 102) := hW47.gz 102 rfl
        have tc103 : s46 103 = (s 103) := hW47.gz 103 rfl
        have tc3001 : s46 3001 = (s 3001) := hW47.gz 3001 rfl
        have tc3002 : s46 3002 = (s 3002) := hW47.gz 3002 rfl
        have tc3003 : s46 3003 = (s 3003) := hW47.gz 3003 rfl
        have tc3004 : s46 3004 = (s 3004) := hW47.gz 3004 rfl
        refine tt_k 6 (S' := (244, [some (.inr (.inl 1000004)), some (.inr (.inl 0)), some (.inr (.inl 30)), some (.inr (.inl 47)), some (.inl i), some (.inl r50), o6], [.inl (i + 1), .inr (.inl 1000004), .inr (.inl 30)], n44, D45, s46, p47, c48)) rfl ?_
        refine tt_stat (j := 4) (i := (i + 1)) rfl hs (by omega) ?_
        show tt Zi 12 0 (245, [some (.inr (.inl 1000004)), some (.inr (.inl 0)), some (.inr (.inl 30)), some (.inr (.inl 47)), some (.inl i), some (.inl r50), o6], [.inl ((xs ((i + 1)).toNat)), .inr (.inl 30)], n44, D45, s46, p47, c48) _
        refine tt_k 4 (S' := (250, [some (.inr (.inl 1000004)), some (.inr (.inl 0)), some (.inr (.inl 30)), some (.inr (.inl 47)), some (.inl i), some (.inl r50), o6], [.inl (i + 2), .inr (.inl 1000004), .inl ((xs ((i + 1)).toNat)), .inr (.inl 30)], n44, D45, s46, p47, c48)) rfl ?_
        refine tt_stat (j := 4) (i := (i + 2)) rfl hs (by omega) ?_
        show tt Zi 12 0 (251, [some (.inr (.inl 1000004)), some (.inr (.inl 0)), some (.inr (.inl 30)), some (.inr (.inl 47)), some (.inl i), some (.inl r50), o6], [.inl ((xs ((i + 2)).toNat)), .inl ((xs ((i + 1)).toNat)), .inr (.inl 30)], n44, D45, s46, p47, c48) _
        refine tt_k 4 (S' := (256, [some (.inr (.inl 1000004)), some (.inr (.inl 0)), some (.inr (.inl 30)), some (.inr (.inl 47)), some (.inl i), some (.inl r50), o6], [.inl (i + 3), .inr (.inl 1000004), .inl ((xs ((i + 2)).toNat)), .inl ((xs ((i + 1)).toNat)), .inr (.inl 30)], n44, D45, s46, p47, c48)) rfl ?_
        refine tt_stat (j := 4) (i := (i + 3)) rfl hs (by omega) ?_
        show tt Zi 12 0 (257, [some (.inr (.inl 1000004)), some (.inr (.inl 0)), some (.inr (.inl 30)), some (.inr (.inl 47)), some (.inl i), some (.inl r50), o6], [.inl ((xs ((i + 3)).toNat)), .inl ((xs ((i + 2)).toNat)), .inl ((xs ((i + 1)).toNat)), .inr (.inl 30)], n44, D45, s46, p47, c48) _
        refine tt_k 4 (S' := (262, [some (.inr (.inl 1000004)), some (.inr (.inl 0)), some (.inr (.inl 30)), some (.inr (.inl 47)), some (.inl i), some (.inl r50), o6], [.inl (i + 4), .inr (.inl 1000004), .inl ((xs ((i + 3)).toNat)), .inl ((xs ((i + 2)).toNat)), .inl ((xs ((i + 1)).toNat)), .inr (.inl 30)], n44, D45, s46, p47, c48)) rfl ?_
        refine tt_stat (j := 4) (i := (i + 4)) rfl hs (by omega) ?_
        show tt Zi 12 0 (263, [some (.inr (.inl 1000004)), some (.inr (.inl 0)), some (.inr (.inl 30)), some (.inr (.inl 47)), some (.inl i), some (.inl r50), o6], [.inl ((xs ((i + 4)).toNat)), .inl ((xs ((i + 3)).toNat)), .inl ((xs ((i + 2)).toNat)), .inl ((xs ((i + 1)).toNat)), .inr (.inl 30)], n44, D45, s46, p47, c48) _
        refine tt_k 4 (S' := (268, [some (.inr (.inl 1000004)), some (.inr (.inl 0)), some (.inr (.inl 30)), some (.inr (.inl 47)), some (.inl i), some (.inl r50), o6], [.inl (i + 5), .inr (.inl 1000004), .inl ((xs ((i + 4)).toNat)), .inl ((xs ((i + 3)).toNat)), .inl ((xs ((i + 2)).toNat)), .inl ((xs ((i + 1)).toNat)), .inr (.inl 30)], n44, D45, s46, p47, c48)) rfl ?_
        refine tt_stat (j := 4) (i := (i + 5)) rfl hs (by omega) ?_
        show tt Zi 12 0 (269, [some (.inr (.inl 1000004)), some (.inr (.inl 0)), some (.inr (.inl 30)), some (.inr (.inl 47)), some (.inl i), some (.inl r50), o6], [.inl ((xs ((i + 5)).toNat)), .inl ((xs ((i + 4)).toNat)), .inl ((xs ((i + 3)).toNat)), .inl ((xs ((i + 2)).toNat)), .inl ((xs ((i + 1)).toNat)), .inr (.inl 30)], n44, D45, s46, p47, c48) _
        refine tt_k 4 (S' := (275, [some (.inr (.inl 1000004)), some (.inr (.inl 0)), some (.inr (.inl 30)), some (.inr (.inl 47)), some (.inl i), some (.inl r50), o6], [.inl (i + 6), .inr (.inl 1000004), .inl ((xs ((i + 5)).toNat)), .inl ((xs ((i + 4)).toNat)), .inl ((xs ((i + 3)).toNat)), .inl ((xs ((i + 2)).toNat)), .inl ((xs ((i + 1)).toNat)), .inr (.inl 30)], n44, D45, s46, p47, c48)) rfl ?_
        refine tt_stat (j := 4) (i := (i + 6)) rfl hs (by omega) ?_
        show tt Zi 12 0 (276, [some (.inr (.inl 1000004)), some (.inr (.inl 0)), some (.inr (.inl 30)), some (.inr (.inl 47)), some (.inl i), some (.inl r50), o6], [.inl ((xs ((i + 6)).toNat)), .inl ((xs ((i + 5)).toNat)), .inl ((xs ((i + 4)).toNat)), .inl ((xs ((i + 3)).toNat)), .inl ((xs ((i + 2)).toNat)), .inl ((xs ((i + 1)).toNat)), .inr (.inl 30)], n44, D45, s46, p47, c48) _
        refine tt_k 4 (S' := (282, [some (.inr (.inl 1000004)), some (.inr (.inl 0)), some (.inr (.inl 30)), some (.inr (.inl 47)), some (.inl i), some (.inl r50), o6], [.inl (i + 7), .inr (.inl 1000004), .inl ((xs ((i + 6)).toNat)), .inl ((xs ((i + 5)).toNat)), .inl ((xs ((i + 4)).toNat)), .inl ((xs ((i + 3)).toNat)), .inl ((xs ((i + 2)).toNat)), .inl ((xs ((i + 1)).toNat)), .inr (.inl 30)], n44, D45, s46, p47, c48)) rfl ?_
        refine tt_stat (j := 4) (i := (i + 7)) rfl hs (by omega) ?_
        show tt Zi 12 0 (283, [some (.inr (.inl 1000004)), some (.inr (.inl 0)), some (.inr (.inl 30)), some (.inr (.inl 47)), some (.inl i), some (.inl r50), o6], [.inl ((xs ((i + 7)).toNat)), .inl ((xs ((i + 6)).toNat)), .inl ((xs ((i + 5)).toNat)), .inl ((xs ((i + 4)).toNat)), .inl ((xs ((i + 3)).toNat)), .inl ((xs ((i + 2)).toNat)), .inl ((xs ((i + 1)).toNat)), .inr (.inl 30)], n44, D45, s46, p47, c48) _
        refine tt_k 4 (S' := (289, [some (.inr (.inl 1000004)), some (.inr (.inl 0)), some (.inr (.inl 30)), some (.inr (.inl 47)), some (.inl i), some (.inl r50), o6], [.inl (i + 8), .inr (.inl 1000004), .inl ((xs ((i + 7)).toNat)), .inl ((xs ((i + 6)).toNat)), .inl ((xs ((i + 5)).toNat)), .inl ((xs ((i + 4)).toNat)), .inl ((xs ((i + 3)).toNat)), .inl ((xs ((i + 2)).toNat)), .inl ((xs ((i + 1)).toNat)), .inr (.inl 30)], n44, D45, s46, p47, c48)) rfl ?_
        refine tt_stat (j := 4) (i := (i + 8)) rfl hs (by omega) ?_
        show tt Zi 12 0 (290, [some (.inr (.inl 1000004)), some (.inr (.inl 0)), some (.inr (.inl 30)), some (.inr (.inl 47)), some (.inl i), some (.inl r50), o6], [.inl ((xs ((i + 8)).toNat)), .inl ((xs ((i + 7)).toNat)), .inl ((xs ((i + 6)).toNat)), .inl ((xs ((i + 5)).toNat)), .inl ((xs ((i + 4)).toNat)), .inl ((xs ((i + 3)).toNat)), .inl ((xs ((i + 2)).toNat)), .inl ((xs ((i + 1)).toNat)), .inr (.inl 30)], n44, D45, s46, p47, c48) _
        have eq3001 : (s46 3001) = s 100 := tc3001.trans ht.1.symm
        have eq3002 : (s46 3002) = s 101 := tc3002.trans ht.2.1.symm
        have eq3003 : (s46 3003) = s 102 := tc3003.trans ht.2.2.1.symm
        have eq3004 : (s46 3004) = s 103 := tc3004.trans ht.2.2.2.symm
        have hcr : cr E (s46 3001) (s46 3002) (s46 3003) (c48 31) := by rw [eq3001, eq3002, eq3003, fk_c (k := 31) FKc (by decide)]; exact hrE
        refine tt_cl (by omega) rfl (k_draw2 (Zi := Zi) (D := D45) (s := s46) (p := p47) (c := c48) (by omega) hS46 hC48 E ((xs ((i + 1)).toNat)) ((xs ((i + 2)).toNat)) ((xs ((i + 3)).toNat)) ((xs ((i + 4)).toNat)) ((xs ((i + 5)).toNat)) ((xs ((i + 6)).toNat)) ((xs ((i + 7)).toNat)) ((xs ((i + 8)).toNat)) (by omega) (by omega) (by omega) (by omega) (by omega) (by omega) (by omega) (by omega) hcr) ?_
        rintro _ _ ⟨s55, c56, rfl, rfl, hS55, hC56, f57, g58, k59, k60, k61⟩
        have hW62 := wp_rf f57 (by decide) hW47
        show tt Zi 12 0 (293, [some (.inr (.inl 1000004)), some (.inr (.inl 0)), some (.inr (.inl 30)), some (.inr (.inl 47)), some (.inl i), some (.inl r50), o6], [], n44, D45, s55, p47, c56) _
        have te100 : s55 100 = (s46 100) := f57 100 (by decide)
        have te101 : s55 101 = (s46 101) := f57 101 (by decide)
        have te102 : s55 102 = (s46 102) := f57 102 (by decide)
        have te103 : s55 103 = (s46 103) := f57 103 (by decide)
        have te3001 : s55 3001 = (s46 3001) := f57 3001 (by decide)
        have te3002 : s55 3002 = (s46 3002) := f57 3002 (by decide)
        have te3003 : s55 3003 = (s46 3003) := f57 3003 (by decide)
        have te3004 : s55 3004 = (s46 3004) := f57 3004 (by decide)
        have ht2 : tie s55 := ⟨te100.trans (tc100.trans (ht.1.trans (tc3001.symm.trans te3001.symm))), te101.trans (tc101.trans (ht.2.1.trans (tc3002.symm.trans te3002.symm))), te102.trans (tc102.trans (ht.2.2.1.trans (tc3003.symm.trans te3003.symm))), te103.trans (tc103.trans (ht.2.2.2.trans (tc3004.symm.trans te3004.symm)))⟩
        have FKr := fk_rc FKc.1 g58 (by decide)
        have hqd := dw_eq (k52) k59 eq3001 eq3002 eq3003 eq3004
        have tS2 : tiS s55 p47 c56 := tiS_dr hcE hrE FKc k53 k54 g58 k60 k61 hqd eq3001 eq3002 eq3003 eq3004 (te100.trans tc100) (te101.trans tc101) (te102.trans tc102)
        clear k59 k60 k61 eq3001 eq3002 eq3003 eq3004
        have q1 : tqC c56 := tqC_f hQ.1 FKc FKr (by decide)
        have q2 : tqW s55 := tqW_f (tqW_f hQ.2.1 FFc (by decide)) f57 (by decide)
        have q3 : tqP s55 p47 c56 := tqP_f hQ.2.2.1 FKc FKr (by decide) FFc (by decide) f57 (by decide)
        have q4 : tqT s55 := tqT_f (tqT_f hQ.2.2.2 FFc (by decide)) f57 (by decide)
        have tQ2 : tiQ s55 p47 c56 := ⟨q1, q2, q3, q4⟩
        clear tc100 tc101 tc102 tc103 tc3001 tc3002 tc3003 tc3004 te100 te101 te102 te103 te3001 te3002 te3003 te3004
        refine tt_k 3 (S' := (23, [some (.inr (.inl 1000004)), some (.inr (.inl 0)), some (.inr (.inl 30)), some (.inr (.inl 47)), some (.inl (i + 9)), some (.inl r50), o6], [], n44, D45, s55, p47, c56)) rfl ?_
        exact ih (q + 1) (i + 9) (some (.inl r50)) (o6) (n44, D45, s55, p47, c56) ⟨hS55, hC56, (wp_rg hW62), FKr.1⟩ ht2 tS2 tQ2 (by omega) (by omega) (by omega) (by omega)
      by_cases h63 : (mi_and (xs (i).toNat) 15) = 2
      · have h64 := h63
        refine tt_tsw (x := (mi_and (xs (i).toNat) 15)) (off := 256) rfl (by omega) (by omega) (by rw [h63]; rfl) rfl ?_
        show tt Zi 12 0 (296, [some (.inr (.inl 1000004)), some (.inr (.inl 0)), some (.inr (.inl 30)), some (.inr (.inl 47)), some (.inl i), o5, o6], [], n, D, s, p, c) _
        refine tt_k 5 (S' := (302, [some (.inr (.inl 1000004)), some (.inr (.inl 0)), some (.inr (.inl 30)), some (.inr (.inl 47)), some (.inl i), o5, o6], [.inl (i + 1), .inr (.inl 1000004), .inr (.inl 0)], n, D, s, p, c)) rfl ?_
        refine tt_stat (j := 4) (i := (i + 1)) rfl hs (by omega) ?_
        show tt Zi 12 0 (303, [some (.inr (.inl 1000004)), some (.inr (.inl 0)), some (.inr (.inl 30)), some (.inr (.inl 47)), some (.inl i), o5, o6], [.inl ((xs ((i + 1)).toNat)), .inr (.inl 0)], n, D, s, p, c) _
        have b65 := hxs ((i + 1)).toNat
        refine tt_k 4 (S' := (308, [some (.inr (.inl 1000004)), some (.inr (.inl 0)), some (.inr (.inl 30)), some (.inr (.inl 47)), some (.inl i), o5, o6], [.inl (i + 2), .inr (.inl 1000004), .inl ((xs ((i + 1)).toNat)), .inr (.inl 0)], n, D, s, p, c)) rfl ?_
        refine tt_stat (j := 4) (i := (i + 2)) rfl hs (by omega) ?_
        show tt Zi 12 0 (309, [some (.inr (.inl 1000004)), some (.inr (.inl 0)), some (.inr (.inl 30)), some (.inr (.inl 47)), some (.inl i), o5, o6], [.inl ((xs ((i + 2)).toNat)), .inl ((xs ((i + 1)).toNat)), .inr (.inl 0)], n, D, s, p, c) _
        have b66 := hxs ((i + 2)).toNat
        refine tt_k 4 (S' := (314, [some (.inr (.inl 1000004)), some (.inr (.inl 0)), some (.inr (.inl 30)), some (.inr (.inl 47)), some (.inl i), o5, o6], [.inl (i + 3), .inr (.inl 1000004), .inl ((xs ((i + 2)).toNat)), .inl ((xs ((i + 1)).toNat)), .inr (.inl 0)], n, D, s, p, c)) rfl ?_
        refine tt_stat (j := 4) (i := (i + 3)) rfl hs (by omega) ?_
        show tt Zi 12 0 (315, [some (.inr (.inl 1000004)), some (.inr (.inl 0)), some (.inr (.inl 30)), some (.inr (.inl 47)), some (.inl i), o5, o6], [.inl ((xs ((i + 3)).toNat)), .inl ((xs ((i + 2)).toNat)), .inl ((xs ((i + 1)).toNat)), .inr (.inl 0)], n, D, s, p, c) _
        have b67 := hxs ((i + 3)).toNat
        refine tt_k 1 (S' := (316, [some (.inr (.inl 1000004)), some (.inr (.inl 0)), some (.inr (.inl 30)), some (.inr (.inl 47)), some (.inl i), o5, o6], [.inr (.inl 47), .inl ((xs ((i + 3)).toNat)), .inl ((xs ((i + 2)).toNat)), .inl ((xs ((i + 1)).toNat)), .inr (.inl 0)], n, D, s, p, c)) rfl ?_
        refine tt_cl (by omega) rfl (h_at (Zi := Zi) (q := q) (n := n) (D := D) (s := s) (p := p) (c := c) (by omega) hz (by omega) hD hS hC (wp_rg hW) ((xs ((i + 1)).toNat)) ((xs ((i + 2)).toNat)) ((xs ((i + 3)).toNat)) (by omega) (by omega) (by omega)) ?_
        rintro _ ⟨n68, D69, s70, p71, c72⟩ ⟨r74, rfl, b75, hY73, k76⟩
        have hS70 : bS s70 := hY73.1
        have hC72 : bC D69 c72 := hY73.2.1
        have hW71 : wp _ _ n68 D69 p71 s70 := hY73.2.2.1
        have FKc : fk p c n68 p71 c72 [47] := hY73.2.2.2.1
        have FFc : fr s s70 [800, 801, 802, 803, 804, 805, 806, 807, 808, 809, 902, 1705, 1706, 2001, 2002, 2003, 2004, 2005, 2006, 2106, 2107, 2108, 2109, 2110, 2111, 2112, 2113, 2114, 2115, 2116, 2500, 2501, 2502, 2503, 2700, 2701, 2702, 2703] := hY73.2.2.2.2
        replace k76 : atP r74 ((xs ((i + 1)).toNat)) ((xs ((i + 2)).toNat)) ((xs ((i + 3)).toNat)) (s 100) (s 101) (s 102) (c72 47 0) (c (p 104) ((((xs ((i + 1)).toNat)) * s 101 + ((xs ((i + 3)).toNat))) * s 100 + ((xs ((i + 2)).toNat))).toNat) := k76
        show tt Zi 12 0 (319, [some (.inr (.inl 1000004)), some (.inr (.inl 0)), some (.inr (.inl 30)), some (.inr (.inl 47)), some (.inl i), o5, o6], [.inl r74], n68, D69, s70, p71, c72) _
        have tc100 : s70 100 = (s 100) := hW71.gz 100 rfl
        have tc101 : s70 101 = (s 101) := hW71.gz 101 rfl
        have tc102 : s70 102 = (s 102) := hW71.gz 102 rfl
        have tc103 : s70 103 = (s 103) := hW71.gz 103 rfl
        have tc3001 : s70 3001 = (s 3001) := hW71.gz 3001 rfl
        have tc3002 : s70 3002 = (s 3002) := hW71.gz 3002 rfl
        have tc3003 : s70 3003 = (s 3003) := hW71.gz 3003 rfl
        have tc3004 : s70 3004 = (s 3004) := hW71.gz 3004 rfl
        refine tt_k 6 (S' := (327, [some (.inr (.inl 1000004)), some (.inr (.inl 0)), some (.inr (.inl 30)), some (.inr (.inl 47)), some (.inl i), some (.inl r74), o6], [.inl (i + 1), .inr (.inl 1000004), .inr (.inl 30)], n68, D69, s70, p71, c72)) rfl ?_
        refine tt_stat (j := 4) (i := (i + 1)) rfl hs (by omega) ?_
        show tt Zi 12 0 (328, [some (.inr (.inl 1000004)), some (.inr (.inl 0)), some (.inr (.inl 30)), some (.inr (.inl 47)), some (.inl i), some (.inl r74), o6], [.inl ((xs ((i + 1)).toNat)), .inr (.inl 30)], n68, D69, s70, p71, c72) _
        refine tt_k 4 (S' := (333, [some (.inr (.inl 1000004)), some (.inr (.inl 0)), some (.inr (.inl 30)), some (.inr (.inl 47)), some (.inl i), some (.inl r74), o6], [.inl (i + 2), .inr (.inl 1000004), .inl ((xs ((i + 1)).toNat)), .inr (.inl 30)], n68, D69, s70, p71, c72)) rfl ?_
        refine tt_stat (j := 4) (i := (i + 2)) rfl hs (by omega) ?_
        show tt Zi 12 0 (334, [some (.inr (.inl 1000004)), some (.inr (.inl 0)), some (.inr (.inl 30)), some (.inr (.inl 47)), some (.inl i), some (.inl r74), o6], [.inl ((xs ((i + 2)).toNat)), .inl ((xs ((i + 1)).toNat)), .inr (.inl 30)], n68, D69, s70, p71, c72) _
        refine tt_k 4 (S' := (339, [some (.inr (.inl 1000004)), some (.inr (.inl 0)), some (.inr (.inl 30)), some (.inr (.inl 47)), some (.inl i), some (.inl r74), o6], [.inl (i + 3), .inr (.inl 1000004), .inl ((xs ((i + 2)).toNat)), .inl ((xs ((i + 1)).toNat)), .inr (.inl 30)], n68, D69, s70, p71, c72)) rfl ?_
        refine tt_stat (j := 4) (i := (i + 3)) rfl hs (by omega) ?_
        show tt Zi 12 0 (340, [some (.inr (.inl 1000004)), some (.inr (.inl 0)), some (.inr (.inl 30)), some (.inr (.inl 47)), some (.inl i), some (.inl r74), o6], [.inl ((xs ((i + 3)).toNat)), .inl ((xs ((i + 2)).toNat)), .inl ((xs ((i + 1)).toNat)), .inr (.inl 30)], n68, D69, s70, p71, c72) _
        refine tt_cl (by omega) rfl (k_at2 (Zi := Zi) (D := D69) (s := s70) (p := p71) (c := c72) (by omega) hS70 hC72 ((xs ((i + 1)).toNat)) ((xs ((i + 2)).toNat)) ((xs ((i + 3)).toNat)) (by omega) (by omega) (by omega)) ?_
        rintro _ _ ⟨s77, r78, rfl, rfl, hS77, f79, b80, k81, k82⟩
        have hW83 := wp_rf f79 (by decide) hW71
        show tt Zi 12 0 (343, [some (.inr (.inl 1000004)), some (.inr (.inl 0)), some (.inr (.inl 30)), some (.inr (.inl 47)), some (.inl i), some (.inl r74), o6], [.inl r78], n68, D69, s77, p71, c72) _
        have te100 : s77 100 = (s70 100) := f79 100 (by decide)
        have te101 : s77 101 = (s70 101) := f79 101 (by decide)
        have te102 : s77 102 = (s70 102) := f79 102 (by decide)
        have te103 : s77 103 = (s70 103) := f79 103 (by decide)
        have te3001 : s77 3001 = (s70 3001) := f79 3001 (by decide)
        have te3002 : s77 3002 = (s70 3002) := f79 3002 (by decide)
        have te3003 : s77 3003 = (s70 3003) := f79 3003 (by decide)
        have te3004 : s77 3004 = (s70 3004) := f79 3004 (by decide)
        have ht2 : tie s77 := ⟨te100.trans (tc100.trans (ht.1.trans (tc3001.symm.trans te3001.symm))), te101.trans (tc101.trans (ht.2.1.trans (tc3002.symm.trans te3002.symm))), te102.trans (tc102.trans (ht.2.2.1.trans (tc3003.symm.trans te3003.symm))), te103.trans (tc103.trans (ht.2.2.2.trans (tc3004.symm.trans te3004.symm)))⟩
        have FKr := fk_rf (c := c72) (K := []) FKc.1
        have tS2 : tiS s77 p71 c72 := tiS_fk (tiS_fk ⟨E, hcE, hrE⟩ FKc (by decide) tc100 tc101 tc102) FKr (by decide) te100 te101 te102
        have eq3001 : (s70 3001) = s 100 := tc3001.trans ht.1.symm
        have eq3002 : (s70 3002) = s 101 := tc3002.trans ht.2.1.symm
        have eq3003 : (s70 3003) = s 102 := tc3003.trans ht.2.2.1.symm
        have hqa := at_q hcE hrE FKc k76 k81 k82 eq3001 eq3002 eq3003
        clear k81 k82 eq3001 eq3002 eq3003
        have q1 : tqC c72 := tqC_f hQ.1 FKc FKr (by decide)
        have q2 : tqW s77 := tqW_f (tqW_f hQ.2.1 FFc (by decide)) f79 (by decide)
        have q3 : tqP s77 p71 c72 := tqP_f hQ.2.2.1 FKc FKr (by decide) FFc (by decide) f79 (by decide)
        have q4 : tqT s77 := tqT_f (tqT_f hQ.2.2.2 FFc (by decide)) f79 (by decide)
        have tQ2 : tiQ s77 p71 c72 := ⟨q1, q2, q3, q4⟩
        clear tc100 tc101 tc102 tc103 tc3001 tc3002 tc3003 tc3004 te100 te101 te102 te103 te3001 te3002 te3003 te3004
        refine tt_k 4 (S' := (23, [some (.inr (.inl 1000004)), some (.inr (.inl 0)), some (.inr (.inl 30)), some (.inr (.inl 47)), some (.inl (i + 9)), some (.inl r74), some (.inl r78)], [], n68, D69, s77, p71, c72)) rfl ?_
        exact ih (q + 1) (i + 9) (some (.inl r74)) (some (.inl r78)) (n68, D69, s77, p71, c72) ⟨hS77, hC72, (wp_rg hW83), FKr.1⟩ ht2 tS2 tQ2 (by omega) (by omega) (by omega) (by omega)
      by_cases h84 : (mi_and (xs (i).toNat) 15) = 3
      · have h85 := h84
        refine tt_tsw (x := (mi_and (xs (i).toNat) 15)) (off := 308) rfl (by omega) (by omega) (by rw [h84]; rfl) rfl ?_
        show tt Zi 12 0 (348, [some (.inr (.inl 1000004)), some (.inr (.inl 0)), some (.inr (.inl 30)), some (.inr (.inl 47)), some (.inl i), o5, o6], [], n, D, s, p, c) _
        refine tt_k 5 (S' := (354, [some (.inr (.inl 1000004)), some (.inr (.inl 0)), some (.inr (.inl 30)), some (.inr (.inl 47)), some (.inl i), o5, o6], [.inl (i + 1), .inr (.inl 1000004), .inr (.inl 0)], n, D, s, p, c)) rfl ?_
        refine tt_stat (j := 4) (i := (i + 1)) rfl hs (by omega) ?_
        show tt Zi 12 0 (355, [some (.inr (.inl 1000004)), some (.inr (.inl 0)), some (.inr (.inl 30)), some (.inr (.inl 47)), some (.inl i), o5, o6], [.inl ((xs ((i + 1)).toNat)), .inr (.inl 0)], n, D, s, p, c) _
        have b86 := hxs ((i + 1)).toNat
        refine tt_k 4 (S' := (360, [some (.inr (.inl 1000004)), some (.inr (.inl 0)), some (.inr (.inl 30)), some (.inr (.inl 47)), some (.inl i), o5, o6], [.inl (i + 2), .inr (.inl 1000004), .inl ((xs ((i + 1)).toNat)), .inr (.inl 0)], n, D, s, p, c)) rfl ?_
        refine tt_stat (j := 4) (i := (i + 2)) rfl hs (by omega) ?_
        show tt Zi 12 0 (361, [some (.inr (.inl 1000004)), some (.inr (.inl 0)), some (.inr (.inl 30)), some (.inr (.inl 47)), some (.inl i), o5, o6], [.inl ((xs ((i + 2)).toNat)), .inl ((xs ((i + 1)).toNat)), .inr (.inl 0)], n, D, s, p, c) _
        have b87 := hxs ((i + 2)).toNat
        refine tt_k 4 (S' := (366, [some (.inr (.inl 1000004)), some (.inr (.inl 0)), some (.inr (.inl 30)), some (.inr (.inl 47)), some (.inl i), o5, o6], [.inl (i + 3), .inr (.inl 1000004), .inl ((xs ((i + 2)).toNat)), .inl ((xs ((i + 1)).toNat)), .inr (.inl 0)], n, D, s, p, c)) rfl ?_
        refine tt_stat (j := 4) (i := (i + 3)) rfl hs (by omega) ?_
        show tt Zi 12 0 (367, [some (.inr (.inl 1000004)), some (.inr (.inl 0)), some (.inr (.inl 30)), some (.inr (.inl 47)), some (.inl i), o5, o6], [.inl ((xs ((i + 3)).toNat)), .inl ((xs ((i + 2)).toNat)), .inl ((xs ((i + 1)).toNat)), .inr (.inl 0)], n, D, s, p, c) _
        have b88 := hxs ((i + 3)).toNat
        refine tt_k 4 (S' := (372, [some (.inr (.inl 1000004)), some (.inr (.inl 0)), some (.inr (.inl 30)), some (.inr (.inl 47)), some (.inl i), o5, o6], [.inl (i + 4), .inr (.inl 1000004), .inl ((xs ((i + 3)).toNat)), .inl ((xs ((i + 2)).toNat)), .inl ((xs ((i + 1)).toNat)), .inr (.inl 0)], n, D, s, p, c)) rfl ?_
        refine tt_stat (j := 4) (i := (i + 4)) rfl hs (by omega) ?_
        show tt Zi 12 0 (373, [some (.inr (.inl 1000004)), some (.inr (.inl 0)), some (.inr (.inl 30)), some (.inr (.inl 47)), some (.inl i), o5, o6], [.inl ((xs ((i + 4)).toNat)), .inl ((xs ((i + 3)).toNat)), .inl ((xs ((i + 2)).toNat)), .inl ((xs ((i + 1)).toNat)), .inr (.inl 0)], n, D, s, p, c) _
        have b89 := hxs ((i + 4)).toNat
        refine tt_k 4 (S' := (378, [some (.inr (.inl 1000004)), some (.inr (.inl 0)), some (.inr (.inl 30)), some (.inr (.inl 47)), some (.inl i), o5, o6], [.inl (i + 5), .inr (.inl 1000004), .inl ((xs ((i + 4)).toNat)), .inl ((xs ((i + 3)).toNat)), .inl ((xs ((i + 2)).toNat)), .inl ((xs ((i + 1)).toNat)), .inr (.inl 0)], n, D, s, p, c)) rfl ?_
        refine tt_stat (j := 4) (i := (i + 5)) rfl hs (by omega) ?_
        show tt Zi 12 0 (379, [some (.inr (.inl 1000004)), some (.inr (.inl 0)), some (.inr (.inl 30)), some (.inr (.inl 47)), some (.inl i), o5, o6], [.inl ((xs ((i + 5)).toNat)), .inl ((xs ((i + 4)).toNat)), .inl ((xs ((i + 3)).toNat)), .inl ((xs ((i + 2)).toNat)), .inl ((xs ((i + 1)).toNat)), .inr (.inl 0)], n, D, s, p, c) _
        have b90 := hxs ((i + 5)).toNat
        refine tt_cl (by omega) rfl (h_measures (Zi := Zi) (q := q) (n := n) (D := D) (s := s) (p := p) (c := c) (by omega) hz (by omega) hD hS hC (wp_rg hW) ((xs ((i + 1)).toNat)) ((xs ((i + 2)).toNat)) ((xs ((i + 3)).toNat)) ((xs ((i + 4)).toNat)) ((xs ((i + 5)).toNat)) (by omega) (by omega) (by omega) (by omega) (by omega)) ?_
        rintro _ ⟨n91, D92, s93, p94, c95⟩ ⟨r97, rfl, b98, hY96, k99, k100, k101⟩
        have hS93 : bS s93 := hY96.1
        have hC95 : bC D92 c95 := hY96.2.1
        have hW94 : wp _ _ n91 D92 p94 s93 := hY96.2.2.1
        have FKc : fk p c n91 p94 c95 [3] := hY96.2.2.2.1
        have FFc : fr s s93 [800, 801, 802, 803, 804, 805, 806, 807, 808, 809, 902, 1705, 1706, 2001, 2002, 2003, 2004, 2005, 2006, 2106, 2107, 2108, 2109, 2110, 2111, 2112, 2113, 2114, 2115, 2116, 2500, 2501, 2502, 2503, 2700, 2701, 2702, 2703] := hY96.2.2.2.2
        replace k99 : meP r97 ((xs ((i + 1)).toNat)) ((xs ((i + 2)).toNat)) ((xs ((i + 3)).toNat)) ((xs ((i + 4)).toNat)) ((xs ((i + 5)).toNat)) (s 103) := k99
        replace k100 : r97 = 0 → (c95 3 0 = ((xs ((i + 1)).toNat)) ∧ c95 3 1 = ((xs ((i + 2)).toNat)) ∧ c95 3 2 = ((xs ((i + 3)).toNat)) ∧ c95 3 3 = ((xs ((i + 4)).toNat)) ∧ c95 3 4 = ((xs ((i + 5)).toNat))) := k100
        replace k101 : r97 ≠ 0 → fk p c n91 p94 c95 [] := k101
        show tt Zi 12 0 (382, [some (.inr (.inl 1000004)), some (.inr (.inl 0)), some (.inr (.inl 30)), some (.inr (.inl 47)), some (.inl i), o5, o6], [.inl r97], n91, D92, s93, p94, c95) _
        have tc100 : s93 100 = (s 100) := hW94.gz 100 rfl
        have tc101 : s93 101 = (s 101) := hW94.gz 101 rfl
        have tc102 : s93 102 = (s 102) := hW94.gz 102 rfl
        have tc103 : s93 103 = (s 103) := hW94.gz 103 rfl
        have tc3001 : s93 3001 = (s 3001) := hW94.gz 3001 rfl
        have tc3002 : s93 3002 = (s 3002) := hW94.gz 3002 rfl
        have tc3003 : s93 3003 = (s 3003) := hW94.gz 3003 rfl
        have tc3004 : s93 3004 = (s 3004) := hW94.gz 3004 rfl
        refine tt_k 6 (S' := (390, [some (.inr (.inl 1000004)), some (.inr (.inl 0)), some (.inr (.inl 30)), some (.inr (.inl 47)), some (.inl i), some (.inl r97), o6], [.inl (i + 1), .inr (.inl 1000004), .inr (.inl 30)], n91, D92, s93, p94, c95)) rfl ?_
        refine tt_stat (j := 4) (i := (i + 1)) rfl hs (by omega) ?_
        show tt Zi 12 0 (391, [some (.inr (.inl 1000004)), some (.inr (.inl 0)), some (.inr (.inl 30)), some (.inr (.inl 47)), some (.inl i), some (.inl r97), o6], [.inl ((xs ((i + 1)).toNat)), .inr (.inl 30)], n91, D92, s93, p94, c95) _
        refine tt_k 4 (S' := (396, [some (.inr (.inl 1000004)), some (.inr (.inl 0)), some (.inr (.inl 30)), some (.inr (.inl 47)), some (.inl i), some (.inl r97), o6], [.inl (i + 2), .inr (.inl 1000004), .inl ((xs ((i + 1)).toNat)), .inr (.inl 30)], n91, D92, s93, p94, c95)) rfl ?_
        refine tt_stat (j := 4) (i := (i + 2)) rfl hs (by omega) ?_
        show tt Zi 12 0 (397, [some (.inr (.inl 1000004)), some (.inr (.inl 0)), some (.inr (.inl 30)), some (.inr (.inl 47)), some (.inl i), some (.inl r97), o6], [.inl ((xs ((i + 2)).toNat)), .inl ((xs ((i + 1)).toNat)), .inr (.inl 30)], n91, D92, s93, p94, c95) _
        refine tt_k 4 (S' := (402, [some (.inr (.inl 1000004)), some (.inr (.inl 0)), some (.inr (.inl 30)), some (.inr (.inl 47)), some (.inl i), some (.inl r97), o6], [.inl (i + 3), .inr (.inl 1000004), .inl ((xs ((i + 2)).toNat)), .inl ((xs ((i + 1)).toNat)), .inr (.inl 30)], n91, D92, s93, p94, c95)) rfl ?_
        refine tt_stat (j := 4) (i := (i + 3)) rfl hs (by omega) ?_
        show tt Zi 12 0 (403, [some (.inr (.inl 1000004)), some (.inr (.inl 0)), some (.inr (.inl 30)), some (.inr (.inl 47)), some (.inl i), some (.inl r97), o6], [.inl ((xs ((i + 3)).toNat)), .inl ((xs ((i + 2)).toNat)), .inl ((xs ((i + 1)).toNat)), .inr (.inl 30)], n91, D92, s93, p94, c95) _
        refine tt_k 4 (S' := (408, [some (.inr (.inl 1000004)), some (.inr (.inl 0)), some (.inr (.inl 30)), some (.inr (.inl 47)), some (.inl i), some (.inl r97), o6], [.inl (i + 4), .inr (.inl 1000004), .inl ((xs ((i + 3)).toNat)), .inl ((xs ((i + 2)).toNat)), .inl ((xs ((i + 1)).toNat)), .inr (.inl 30)], n91, D92, s93, p94, c95)) rfl ?_
        refine tt_stat (j := 4) (i := (i + 4)) rfl hs (by omega) ?_
        show tt Zi 12 0 (409, [some (.inr (.inl 1000004)), some (.inr (.inl 0)), some (.inr (.inl 30)), some (.inr (.inl 47)), some (.inl i), some (.inl r97), o6], [.inl ((xs ((i + 4)).toNat)), .inl ((xs ((i + 3)).toNat)), .inl ((xs ((i + 2)).toNat)), .inl ((xs ((i + 1)).toNat)), .inr (.inl 30)], n91, D92, s93, p94, c95) _
        refine tt_k 4 (S' := (414, [some (.inr (.inl 1000004)), some (.inr (.inl 0)), some (.inr (.inl 30)), some (.inr (.inl 47)), some (.inl i), some (.inl r97), o6], [.inl (i + 5), .inr (.inl 1000004), .inl ((xs ((i + 4)).toNat)), .inl ((xs ((i + 3)).toNat)), .inl ((xs ((i + 2)).toNat)), .inl ((xs ((i + 1)).toNat)), .inr (.inl 30)], n91, D92, s93, p94, c95)) rfl ?_
        refine tt_stat (j := 4) (i := (i + 5)) rfl hs (by omega) ?_
        show tt Zi 12 0 (415, [some (.inr (.inl 1000004)), some (.inr (.inl 0)), some (.inr (.inl 30)), some (.inr (.inl 47)), some (.inl i), some (.inl r97), o6], [.inl ((xs ((i + 5)).toNat)), .inl ((xs ((i + 4)).toNat)), .inl ((xs ((i + 3)).toNat)), .inl ((xs ((i + 2)).toNat)), .inl ((xs ((i + 1)).toNat)), .inr (.inl 30)], n91, D92, s93, p94, c95) _
        refine tt_cl (by omega) rfl (k_measures3 (Zi := Zi) (D := D92) (s := s93) (p := p94) (c := c95) (by omega) hS93 hC95 ((xs ((i + 1)).toNat)) ((xs ((i + 2)).toNat)) ((xs ((i + 3)).toNat)) ((xs ((i + 4)).toNat)) ((xs ((i + 5)).toNat)) (by omega) (by omega) (by omega) (by omega) (by omega)) ?_
        rintro _ _ ⟨s102, c103, rfl, rfl, hS102, hC103, f104, g105, k106, k107⟩
        have hW108 := wp_rf f104 (by decide) hW94
        show tt Zi 12 0 (418, [some (.inr (.inl 1000004)), some (.inr (.inl 0)), some (.inr (.inl 30)), some (.inr (.inl 47)), some (.inl i), some (.inl r97), o6], [], n91, D92, s102, p94, c103) _
        have te100 : s102 100 = (s93 100) := f104 100 (by decide)
        have te101 : s102 101 = (s93 101) := f104 101 (by decide)
        have te102 : s102 102 = (s93 102) := f104 102 (by decide)
        have te103 : s102 103 = (s93 103) := f104 103 (by decide)
        have te3001 : s102 3001 = (s93 3001) := f104 3001 (by decide)
        have te3002 : s102 3002 = (s93 3002) := f104 3002 (by decide)
        have te3003 : s102 3003 = (s93 3003) := f104 3003 (by decide)
        have te3004 : s102 3004 = (s93 3004) := f104 3004 (by decide)
        have ht2 : tie s102 := ⟨te100.trans (tc100.trans (ht.1.trans (tc3001.symm.trans te3001.symm))), te101.trans (tc101.trans (ht.2.1.trans (tc3002.symm.trans te3002.symm))), te102.trans (tc102.trans (ht.2.2.1.trans (tc3003.symm.trans te3003.symm))), te103.trans (tc103.trans (ht.2.2.2.trans (tc3004.symm.trans te3004.symm)))⟩
        have FKr := fk_rc FKc.1 g105 (by decide)
        have tS2 : tiS s102 p94 c103 := tiS_fk (tiS_fk ⟨E, hcE, hrE⟩ FKc (by decide) tc100 tc101 tc102) FKr (by decide) te100 te101 te102
        have q1 : tqC c103 := tqC_me hQ.1 FKc k99 k100 k101 g105 (tc3004.trans ht.2.2.2.symm) k107
        have q2 : tqW s102 := tqW_f (tqW_f hQ.2.1 FFc (by decide)) f104 (by decide)
        have q3 : tqP s102 p94 c103 := tqP_f hQ.2.2.1 FKc FKr (by decide) FFc (by decide) f104 (by decide)
        have q4 : tqT s102 := tqT_f (tqT_f hQ.2.2.2 FFc (by decide)) f104 (by decide)
        have tQ2 : tiQ s102 p94 c103 := ⟨q1, q2, q3, q4⟩
        clear tc100 tc101 tc102 tc103 tc3001 tc3002 tc3003 tc3004 te100 te101 te102 te103 te3001 te3002 te3003 te3004
        refine tt_k 3 (S' := (23, [some (.inr (.inl 1000004)), some (.inr (.inl 0)), some (.inr (.inl 30)), some (.inr (.inl 47)), some (.inl (i + 9)), some (.inl r97), o6], [], n91, D92, s102, p94, c103)) rfl ?_
        exact ih (q + 1) (i + 9) (some (.inl r97)) (o6) (n91, D92, s102, p94, c103) ⟨hS102, hC103, (wp_rg hW108), FKr.1⟩ ht2 tS2 tQ2 (by omega) (by omega) (by omega) (by omega)
      by_cases h109 : (mi_and (xs (i).toNat) 15) = 4
      · have h110 := h109
        refine tt_tsw (x := (mi_and (xs (i).toNat) 15)) (off := 381) rfl (by omega) (by omega) (by rw [h109]; rfl) rfl ?_
        show tt Zi 12 0 (421, [some (.inr (.inl 1000004)), some (.inr (.inl 0)), some (.inr (.inl 30)), some (.inr (.inl 47)), some (.inl i), o5, o6], [], n, D, s, p, c) _
        refine tt_k 5 (S' := (427, [some (.inr (.inl 1000004)), some (.inr (.inl 0)), some (.inr (.inl 30)), some (.inr (.inl 47)), some (.inl i), o5, o6], [.inl (i + 1), .inr (.inl 1000004), .inr (.inl 0)], n, D, s, p, c)) rfl ?_
        refine tt_stat (j := 4) (i := (i + 1)) rfl hs (by omega) ?_
        show tt Zi 12 0 (428, [some (.inr (.inl 1000004)), some (.inr (.inl 0)), some (.inr (.inl 30)), some (.inr (.inl 47)), some (.inl i), o5, o6], [.inl ((xs ((i + 1)).toNat)), .inr (.inl 0)], n, D, s, p, c) _
        have b111 := hxs ((i + 1)).toNat
        refine tt_k 1 (S' := (429, [some (.inr (.inl 1000004)), some (.inr (.inl 0)), some (.inr (.inl 30)), some (.inr (.inl 47)), some (.inl i), o5, o6], [.inr (.inl 47), .inl ((xs ((i + 1)).toNat)), .inr (.inl 0)], n, D, s, p, c)) rfl ?_
        refine tt_cl (by omega) rfl (h_pack (Zi := Zi) (q := q) (n := n) (D := D) (s := s) (p := p) (c := c) (by omega) hz (by omega) hD hS hC (wp_rg hW) E ((xs ((i + 1)).toNat)) (by omega) hcE hQ.2.1) ?_
        rintro _ ⟨n112, D113, s114, p115, c116⟩ ⟨r118, rfl, b119, hY117, k120, k121, k122, k123, k124, k125, k126, k127⟩
        have hS114 : bS s114 := hY117.1
        have hC116 : bC D113 c116 := hY117.2.1
        have hW115 : wp _ _ n112 D113 p115 s114 := hY117.2.2.1
        have FKc : fk p c n112 p115 c116 [47, 400, 900, 901, 1203, 1204] := hY117.2.2.2.1
        have FFc : fr s s114 [401, 800, 801, 802, 803, 804, 805, 806, 807, 808, 809, 902, 1206, 1207, 1208, 1209, 1210, 1211, 1212, 1213, 1214, 1215, 1216, 1601, 1602, 1705, 1706, 2001, 2002, 2003, 2004, 2005, 2006, 2106, 2107, 2108, 2109, 2110, 2111, 2112, 2113, 2114, 2115, 2116, 2500, 2501, 2502, 2503, 2700, 2701, 2702, 2703] := hY117.2.2.2.2
        replace k120 : r118 = 0 → ((VM (c 3 0) (c 3 1) (c 3 2) (c 3 3) (c 3 4) (s 103) ((xs ((i + 1)).toNat))) ∧ AB E (s 100) (s 101) (s 102) (zMo (c 3 0) (s 103))) := k120
        replace k121 : r118 ≠ 0 → ¬ ((VM (c 3 0) (c 3 1) (c 3 2) (c 3 3) (c 3 4) (s 103) ((xs ((i + 1)).toNat))) ∧ AB E (s 100) (s 101) (s 102) (zMo (c 3 0) (s 103))) := k121
        replace k122 : r118 = 0 → c116 47 0 = s114 401 := k122
        replace k123 : r118 = 0 → wrl (PK (c 3 0) (c 3 1) (c 3 2) (c 3 3) (c 3 4) (s 100) (s 101) (s 102) (s 103) ((xs ((i + 1)).toNat)) E) (s114 401) 0 8 (c116 (p115 400)) := k123
        replace k124 : r118 = 0 → s114 1601 = 0 ∧ s114 1602 = 8 := k124
        replace k125 : r118 ≠ 0 → s114 401 = s 401 ∧ s114 1601 = s 1601 ∧ s114 1602 = s 1602 := k125
        replace k126 : r118 = 0 ∨ r118 = 1 := k126
        replace k127 : r118 ≠ 0 → fk p c n112 p115 c116 [] := k127
        show tt Zi 12 0 (432, [some (.inr (.inl 1000004)), some (.inr (.inl 0)), some (.inr (.inl 30)), some (.inr (.inl 47)), some (.inl i), o5, o6], [.inl r118], n112, D113, s114, p115, c116) _
        have tc100 : s114 100 = (s 100) := hW115.gz 100 rfl
        have tc101 : s114 101 = (s 101) := hW115.gz 101 rfl
        have tc102 : s114 102 = (s 102) := hW115.gz 102 rfl
        have tc103 : s114 103 = (s 103) := hW115.gz 103 rfl
        have tc3001 : s114 3001 = (s 3001) := hW115.gz 3001 rfl
        have tc3002 : s114 3002 = (s 3002) := hW115.gz 3002 rfl
        have tc3003 : s114 3003 = (s 3003) := hW115.gz 3003 rfl
        have tc3004 : s114 3004 = (s 3004) := hW115.gz 3004 rfl
        refine tt_k 6 (S' := (440, [some (.inr (.inl 1000004)), some (.inr (.inl 0)), some (.inr (.inl 30)), some (.inr (.inl 47)), some (.inl i), some (.inl r118), o6], [.inl (i + 1), .inr (.inl 1000004), .inr (.inl 30)], n112, D113, s114, p115, c116)) rfl ?_
        refine tt_stat (j := 4) (i := (i + 1)) rfl hs (by omega) ?_
        show tt Zi 12 0 (441, [some (.inr (.inl 1000004)), some (.inr (.inl 0)), some (.inr (.inl 30)), some (.inr (.inl 47)), some (.inl i), some (.inl r118), o6], [.inl ((xs ((i + 1)).toNat)), .inr (.inl 30)], n112, D113, s114, p115, c116) _
        have eq3001 : (s114 3001) = s 100 := tc3001.trans ht.1.symm
        have eq3002 : (s114 3002) = s 101 := tc3002.trans ht.2.1.symm
        have eq3003 : (s114 3003) = s 102 := tc3003.trans ht.2.2.1.symm
        have eq3004 : (s114 3004) = s 103 := tc3004.trans ht.2.2.2.symm
        have hcr : cr E (s114 3001) (s114 3002) (s114 3003) (c116 31) := by rw [eq3001, eq3002, eq3003, fk_c (k := 31) FKc (by decide)]; exact hrE
        refine tt_cl (by omega) rfl (x_pack (Zi := Zi) (D := D113) (s := s114) (p := p115) (c := c116) (by omega) hS114 hC116 E ((xs ((i + 1)).toNat)) (by omega) hcr) ?_
        rintro _ _ ⟨s128, c129, r130, rfl, rfl, hS128, hC129, f131, g132, b133, k134⟩
        have hW135 := wp_rf f131 (by decide) hW115
        show tt Zi 12 0 (444, [some (.inr (.inl 1000004)), some (.inr (.inl 0)), some (.inr (.inl 30)), some (.inr (.inl 47)), some (.inl i), some (.inl r118), o6], [.inl r130], n112, D113, s128, p115, c129) _
        have te100 : s128 100 = (s114 100) := f131 100 (by decide)
        have te101 : s128 101 = (s114 101) := f131 101 (by decide)
        have te102 : s128 102 = (s114 102) := f131 102 (by decide)
        have te103 : s128 103 = (s114 103) := f131 103 (by decide)
        have te3001 : s128 3001 = (s114 3001) := f131 3001 (by decide)
        have te3002 : s128 3002 = (s114 3002) := f131 3002 (by decide)
        have te3003 : s128 3003 = (s114 3003) := f131 3003 (by decide)
        have te3004 : s128 3004 = (s114 3004) := f131 3004 (by decide)
        have ht2 : tie s128 := ⟨te100.trans (tc100.trans (ht.1.trans (tc3001.symm.trans te3001.symm))), te101.trans (tc101.trans (ht.2.1.trans (tc3002.symm.trans te3002.symm))), te102.trans (tc102.trans (ht.2.2.1.trans (tc3003.symm.trans te3003.symm))), te103.trans (tc103.trans (ht.2.2.2.trans (tc3004.symm.trans te3004.symm)))⟩
        have FKr := fk_rc FKc.1 g132 (by decide)
        have tS2 : tiS s128 p115 c129 := tiS_fk (tiS_fk ⟨E, hcE, hrE⟩ FKc (by decide) tc100 tc101 tc102) FKr (by decide) te100 te101 te102
        have q1 : tqC c129 := tqC_f hQ.1 FKc FKr (by decide)
        have q2 : tqW s128 := tqW_f (show tqW s114 from if e0 : r118 = 0 then k124 e0 else ⟨(k125 e0).2.1.trans hQ.2.1.1, (k125 e0).2.2.trans hQ.2.1.2⟩) f131 (by decide)
        have er0 : c116 32 0 = c 3 0 := by rw [fk_c (k := 32) FKc (by decide)]; exact (hQ.1 0 (by decide)).symm
        have er1 : c116 32 1 = c 3 1 := by rw [fk_c (k := 32) FKc (by decide)]; exact (hQ.1 1 (by decide)).symm
        have er2 : c116 32 2 = c 3 2 := by rw [fk_c (k := 32) FKc (by decide)]; exact (hQ.1 2 (by decide)).symm
        have er3 : c116 32 3 = c 3 3 := by rw [fk_c (k := 32) FKc (by decide)]; exact (hQ.1 3 (by decide)).symm
        have er4 : c116 32 4 = c 3 4 := by rw [fk_c (k := 32) FKc (by decide)]; exact (hQ.1 4 (by decide)).symm
        have kp := k134
        rw [er0, er1, er2, er3, er4, eq3001, eq3002, eq3003, eq3004] at kp
        have hqp := pk_q k126 k120 k121 k122 k123 kp
        rw [← show c129 47 = c116 47 from g132 47 (by decide)] at hqp
        have q3 : tqP s128 p115 c129 := tqP_pk hQ.2.2.1 FKc FKr FFc (by decide) k120 k121 k123 k125 k127 kp f131 (by decide)
        clear kp k134 k120 k121 k122 k123 k124 k125 k126 k127 eq3001 eq3002 eq3003 eq3004 er0 er1 er2 er3 er4
        have q4 : tqT s128 := tqT_f (tqT_f hQ.2.2.2 FFc (by decide)) f131 (by decide)
        have tQ2 : tiQ s128 p115 c129 := ⟨q1, q2, q3, q4⟩
        clear tc100 tc101 tc102 tc103 tc3001 tc3002 tc3003 tc3004 te100 te101 te102 te103 te3001 te3002 te3003 te3004
        refine tt_k 4 (S' := (23, [some (.inr (.inl 1000004)), some (.inr (.inl 0)), some (.inr (.inl 30)), some (.inr (.inl 47)), some (.inl (i + 9)), some (.inl r118), some (.inl r130)], [], n112, D113, s128, p115, c129)) rfl ?_
        exact ih (q + 1) (i + 9) (some (.inl r118)) (some (.inl r130)) (n112, D113, s128, p115, c129) ⟨hS128, hC129, (wp_rg hW135), FKr.1⟩ ht2 tS2 tQ2 (by omega) (by omega) (by omega) (by omega)
      by_cases h136 : (mi_and (xs (i).toNat) 15) = 5
      · have h137 := h136
        refine tt_tsw (x := (mi_and (xs (i).toNat) 15)) (off := 409) rfl (by omega) (by omega) (by rw [h136]; rfl) rfl ?_
        show tt Zi 12 0 (449, [some (.inr (.inl 1000004)), some (.inr (.inl 0)), some (.inr (.inl 30)), some (.inr (.inl 47)), some (.inl i), o5, o6], [], n, D, s, p, c) _
        refine tt_k 1 (S' := (450, [some (.inr (.inl 1000004)), some (.inr (.inl 0)), some (.inr (.inl 30)), some (.inr (.inl 47)), some (.inl i), o5, o6], [.inr (.inl 0)], n, D, s, p, c)) rfl ?_
        refine tt_cl (by omega) rfl (e_size (Zi := Zi) (q := q) (n := n) (D := D) (s := s) (p := p) (c := c) (by omega) hz (by omega) hD hS hC (wp_rg hW) ) ?_
        rintro _ ⟨n138, D139, s140, p141, c142⟩ ⟨r144, rfl, b145, hY143, k146⟩
        have hS140 : bS s140 := hY143.1
        have hC142 : bC D139 c142 := hY143.2.1
        have hW141 : wp _ _ n138 D139 p141 s140 := hY143.2.2.1
        have FKc : fk p c n138 p141 c142 [] := hY143.2.2.2.1
        have FFc : fr s s140 [] := hY143.2.2.2.2
        replace k146 : r144 = s 401 := k146
        show tt Zi 12 0 (453, [some (.inr (.inl 1000004)), some (.inr (.inl 0)), some (.inr (.inl 30)), some (.inr (.inl 47)), some (.inl i), o5, o6], [.inl r144], n138, D139, s140, p141, c142) _
        have tc100 : s140 100 = (s 100) := hW141.gz 100 rfl
        have tc101 : s140 101 = (s 101) := hW141.gz 101 rfl
        have tc102 : s140 102 = (s 102) := hW141.gz 102 rfl
        have tc103 : s140 103 = (s 103) := hW141.gz 103 rfl
        have tc3001 : s140 3001 = (s 3001) := hW141.gz 3001 rfl
        have tc3002 : s140 3002 = (s 3002) := hW141.gz 3002 rfl
        have tc3003 : s140 3003 = (s 3003) := hW141.gz 3003 rfl
        have tc3004 : s140 3004 = (s 3004) := hW141.gz 3004 rfl
        refine tt_k 2 (S' := (455, [some (.inr (.inl 1000004)), some (.inr (.inl 0)), some (.inr (.inl 30)), some (.inr (.inl 47)), some (.inl i), o5, o6], [.inr (.inl 30)], n138, D139, s140, p141, c142)) rfl ?_
        refine tt_cl (by omega) rfl (k_size (Zi := Zi) (D := D139) (s := s140) (p := p141) (c := c142) (by omega) hS140 hC142 ) ?_
        rintro _ _ ⟨s147, r148, rfl, rfl, hS147, f149, b150, k151, k152⟩
        have hW153 := wp_rf f149 (by decide) hW141
        show tt Zi 12 0 (458, [some (.inr (.inl 1000004)), some (.inr (.inl 0)), some (.inr (.inl 30)), some (.inr (.inl 47)), some (.inl i), o5, o6], [.inl r148], n138, D139, s147, p141, c142) _
        have te100 : s147 100 = (s140 100) := f149 100 (by decide)
        have te101 : s147 101 = (s140 101) := f149 101 (by decide)
        have te102 : s147 102 = (s140 102) := f149 102 (by decide)
        have te103 : s147 103 = (s140 103) := f149 103 (by decide)
        have te3001 : s147 3001 = (s140 3001) := f149 3001 (by decide)
        have te3002 : s147 3002 = (s140 3002) := f149 3002 (by decide)
        have te3003 : s147 3003 = (s140 3003) := f149 3003 (by decide)
        have te3004 : s147 3004 = (s140 3004) := f149 3004 (by decide)
        have ht2 : tie s147 := ⟨te100.trans (tc100.trans (ht.1.trans (tc3001.symm.trans te3001.symm))), te101.trans (tc101.trans (ht.2.1.trans (tc3002.symm.trans te3002.symm))), te102.trans (tc102.trans (ht.2.2.1.trans (tc3003.symm.trans te3003.symm))), te103.trans (tc103.trans (ht.2.2.2.trans (tc3004.symm.trans te3004.symm)))⟩
        have FKr := fk_rf (c := c142) (K := []) FKc.1
        have tS2 : tiS s147 p141 c142 := tiS_fk (tiS_fk ⟨E, hcE, hrE⟩ FKc (by decide) tc100 tc101 tc102) FKr (by decide) te100 te101 te102
        have q1 : tqC c142 := tqC_f hQ.1 FKc FKr (by decide)
        have q2 : tqW s147 := tqW_f (tqW_f hQ.2.1 FFc (by decide)) f149 (by decide)
        have q3 : tqP s147 p141 c142 := tqP_f hQ.2.2.1 FKc FKr (by decide) FFc (by decide) f149 (by decide)
        have q4 : tqT s147 := tqT_f (tqT_f hQ.2.2.2 FFc (by decide)) f149 (by decide)
        have hqs : r144 = r148 := sz_q hQ.2.2.1 FFc (by decide) k146 k151
        have tQ2 : tiQ s147 p141 c142 := ⟨q1, q2, q3, q4⟩
        clear tc100 tc101 tc102 tc103 tc3001 tc3002 tc3003 tc3004 te100 te101 te102 te103 te3001 te3002 te3003 te3004
        refine tt_k 4 (S' := (23, [some (.inr (.inl 1000004)), some (.inr (.inl 0)), some (.inr (.inl 30)), some (.inr (.inl 47)), some (.inl (i + 9)), o5, o6], [], n138, D139, s147, p141, c142)) rfl ?_
        exact ih (q + 1) (i + 9) (o5) (o6) (n138, D139, s147, p141, c142) ⟨hS147, hC142, (wp_rg hW153), FKr.1⟩ ht2 tS2 tQ2 (by omega) (by omega) (by omega) (by omega)
      by_cases h154 : (mi_and (xs (i).toNat) 15) = 6
      · have h155 := h154
        refine tt_tsw (x := (mi_and (xs (i).toNat) 15)) (off := 422) rfl (by omega) (by omega) (by rw [h154]; rfl) rfl ?_
        show tt Zi 12 0 (462, [some (.inr (.inl 1000004)), some (.inr (.inl 0)), some (.inr (.inl 30)), some (.inr (.inl 47)), some (.inl i), o5, o6], [], n, D, s, p, c) _
        refine tt_k 5 (S' := (468, [some (.inr (.inl 1000004)), some (.inr (.inl 0)), some (.inr (.inl 30)), some (.inr (.inl 47)), some (.inl i), o5, o6], [.inl (i + 1), .inr (.inl 1000004), .inr (.inl 0)], n, D, s, p, c)) rfl ?_
        refine tt_stat (j := 4) (i := (i + 1)) rfl hs (by omega) ?_
        show tt Zi 12 0 (469, [some (.inr (.inl 1000004)), some (.inr (.inl 0)), some (.inr (.inl 30)), some (.inr (.inl 47)), some (.inl i), o5, o6], [.inl ((xs ((i + 1)).toNat)), .inr (.inl 0)], n, D, s, p, c) _
        have b156 := hxs ((i + 1)).toNat
        refine tt_k 1 (S' := (470, [some (.inr (.inl 1000004)), some (.inr (.inl 0)), some (.inr (.inl 30)), some (.inr (.inl 47)), some (.inl i), o5, o6], [.inr (.inl 47), .inl ((xs ((i + 1)).toNat)), .inr (.inl 0)], n, D, s, p, c)) rfl ?_
        refine tt_cl (by omega) rfl (h_out (Zi := Zi) (q := q) (n := n) (D := D) (s := s) (p := p) (c := c) (by omega) hz (by omega) hD hS hC (wp_rg hW) ((xs ((i + 1)).toNat)) (by omega)) ?_
        rintro _ ⟨n157, D158, s159, p160, c161⟩ ⟨r163, rfl, b164, hY162, k165, k166⟩
        have hS159 : bS s159 := hY162.1
        have hC161 : bC D158 c161 := hY162.2.1
        have hW160 : wp _ _ n157 D158 p160 s159 := hY162.2.2.1
        have FKc : fk p c n157 p160 c161 [47] := hY162.2.2.2.1
        have FFc : fr s s159 [800, 801, 802, 803, 804, 805, 806, 807, 808, 809, 902, 1705, 1706, 2001, 2002, 2003, 2004, 2005, 2006, 2106, 2107, 2108, 2109, 2110, 2111, 2112, 2113, 2114, 2115, 2116, 2500, 2501, 2502, 2503, 2700, 2701, 2702, 2703] := hY162.2.2.2.2
        replace k165 : r163 = 0 → (0 ≤ ((xs ((i + 1)).toNat)) ∧ ((xs ((i + 1)).toNat)) < s 401) ∧ c161 47 0 = mi_and (c (p 400) ((xs ((i + 1)).toNat)).toNat) 255 := k165
        replace k166 : r163 ≠ 0 → r163 = 1 ∧ ¬ (0 ≤ ((xs ((i + 1)).toNat)) ∧ ((xs ((i + 1)).toNat)) < s 401) := k166
        show tt Zi 12 0 (473, [some (.inr (.inl 1000004)), some (.inr (.inl 0)), some (.inr (.inl 30)), some (.inr (.inl 47)), some (.inl i), o5, o6], [.inl r163], n157, D158, s159, p160, c161) _
        have tc100 : s159 100 = (s 100) := hW160.gz 100 rfl
        have tc101 : s159 101 = (s 101) := hW160.gz 101 rfl
        have tc102 : s159 102 = (s 102) := hW160.gz 102 rfl
        have tc103 : s159 103 = (s 103) := hW160.gz 103 rfl
        have tc3001 : s159 3001 = (s 3001) := hW160.gz 3001 rfl
        have tc3002 : s159 3002 = (s 3002) := hW160.gz 3002 rfl
        have tc3003 : s159 3003 = (s 3003) := hW160.gz 3003 rfl
        have tc3004 : s159 3004 = (s 3004) := hW160.gz 3004 rfl
        refine tt_k 6 (S' := (481, [some (.inr (.inl 1000004)), some (.inr (.inl 0)), some (.inr (.inl 30)), some (.inr (.inl 47)), some (.inl i), some (.inl r163), o6], [.inl (i + 1), .inr (.inl 1000004), .inr (.inl 30)], n157, D158, s159, p160, c161)) rfl ?_
        refine tt_stat (j := 4) (i := (i + 1)) rfl hs (by omega) ?_
        show tt Zi 12 0 (482, [some (.inr (.inl 1000004)), some (.inr (.inl 0)), some (.inr (.inl 30)), some (.inr (.inl 47)), some (.inl i), some (.inl r163), o6], [.inl ((xs ((i + 1)).toNat)), .inr (.inl 30)], n157, D158, s159, p160, c161) _
        refine tt_cl (by omega) rfl (k_out3 (Zi := Zi) (D := D158) (s := s159) (p := p160) (c := c161) (by omega) hS159 hC161 ((xs ((i + 1)).toNat)) (by omega)) ?_
        rintro _ _ ⟨s167, r168, rfl, rfl, hS167, f169, b170, k171, k172⟩
        have hW173 := wp_rf f169 (by decide) hW160
        show tt Zi 12 0 (485, [some (.inr (.inl 1000004)), some (.inr (.inl 0)), some (.inr (.inl 30)), some (.inr (.inl 47)), some (.inl i), some (.inl r163), o6], [.inl r168], n157, D158, s167, p160, c161) _
        have te100 : s167 100 = (s159 100) := f169 100 (by decide)
        have te101 : s167 101 = (s159 101) := f169 101 (by decide)
        have te102 : s167 102 = (s159 102) := f169 102 (by decide)
        have te103 : s167 103 = (s159 103) := f169 103 (by decide)
        have te3001 : s167 3001 = (s159 3001) := f169 3001 (by decide)
        have te3002 : s167 3002 = (s159 3002) := f169 3002 (by decide)
        have te3003 : s167 3003 = (s159 3003) := f169 3003 (by decide)
        have te3004 : s167 3004 = (s159 3004) := f169 3004 (by decide)
        have ht2 : tie s167 := ⟨te100.trans (tc100.trans (ht.1.trans (tc3001.symm.trans te3001.symm))), te101.trans (tc101.trans (ht.2.1.trans (tc3002.symm.trans te3002.symm))), te102.trans (tc102.trans (ht.2.2.1.trans (tc3003.symm.trans te3003.symm))), te103.trans (tc103.trans (ht.2.2.2.trans (tc3004.symm.trans te3004.symm)))⟩
        have FKr := fk_rf (c := c161) (K := []) FKc.1
        have tS2 : tiS s167 p160 c161 := tiS_fk (tiS_fk ⟨E, hcE, hrE⟩ FKc (by decide) tc100 tc101 tc102) FKr (by decide) te100 te101 te102
        have q1 : tqC c161 := tqC_f hQ.1 FKc FKr (by decide)
        have q2 : tqW s167 := tqW_f (tqW_f hQ.2.1 FFc (by decide)) f169 (by decide)
        have q3 : tqP s167 p160 c161 := tqP_f hQ.2.2.1 FKc FKr (by decide) FFc (by decide) f169 (by decide)
        have q4 : tqT s167 := tqT_f (tqT_f hQ.2.2.2 FFc (by decide)) f169 (by decide)
        have hqo := ou_q hQ.2.2.1 FKc (by decide) FFc (by decide) k165 k166 k171 k172
        have tQ2 : tiQ s167 p160 c161 := ⟨q1, q2, q3, q4⟩
        clear tc100 tc101 tc102 tc103 tc3001 tc3002 tc3003 tc3004 te100 te101 te102 te103 te3001 te3002 te3003 te3004
        refine tt_k 4 (S' := (23, [some (.inr (.inl 1000004)), some (.inr (.inl 0)), some (.inr (.inl 30)), some (.inr (.inl 47)), some (.inl (i + 9)), some (.inl r163), some (.inl r168)], [], n157, D158, s167, p160, c161)) rfl ?_
        exact ih (q + 1) (i + 9) (some (.inl r163)) (some (.inl r168)) (n157, D158, s167, p160, c161) ⟨hS167, hC161, (wp_rg hW173), FKr.1⟩ ht2 tS2 tQ2 (by omega) (by omega) (by omega) (by omega)
      by_cases h174 : (mi_and (xs (i).toNat) 15) = 7
      · have h175 := h174
        refine tt_tsw (x := (mi_and (xs (i).toNat) 15)) (off := 450) rfl (by omega) (by omega) (by rw [h174]; rfl) rfl ?_
        show tt Zi 12 0 (490, [some (.inr (.inl 1000004)), some (.inr (.inl 0)), some (.inr (.inl 30)), some (.inr (.inl 47)), some (.inl i), o5, o6], [], n, D, s, p, c) _
        refine tt_k 5 (S' := (496, [some (.inr (.inl 1000004)), some (.inr (.inl 0)), some (.inr (.inl 30)), some (.inr (.inl 47)), some (.inl i), o5, o6], [.inl (i + 1), .inr (.inl 1000004), .inr (.inl 0)], n, D, s, p, c)) rfl ?_
        refine tt_stat (j := 4) (i := (i + 1)) rfl hs (by omega) ?_
        show tt Zi 12 0 (497, [some (.inr (.inl 1000004)), some (.inr (.inl 0)), some (.inr (.inl 30)), some (.inr (.inl 47)), some (.inl i), o5, o6], [.inl ((xs ((i + 1)).toNat)), .inr (.inl 0)], n, D, s, p, c) _
        have b176 := hxs ((i + 1)).toNat
        refine tt_k 4 (S' := (502, [some (.inr (.inl 1000004)), some (.inr (.inl 0)), some (.inr (.inl 30)), some (.inr (.inl 47)), some (.inl i), o5, o6], [.inl (i + 2), .inr (.inl 1000004), .inl ((xs ((i + 1)).toNat)), .inr (.inl 0)], n, D, s, p, c)) rfl ?_
        refine tt_stat (j := 4) (i := (i + 2)) rfl hs (by omega) ?_
        show tt Zi 12 0 (503, [some (.inr (.inl 1000004)), some (.inr (.inl 0)), some (.inr (.inl 30)), some (.inr (.inl 47)), some (.inl i), o5, o6], [.inl ((xs ((i + 2)).toNat)), .inl ((xs ((i + 1)).toNat)), .inr (.inl 0)], n, D, s, p, c) _
        have b177 := hxs ((i + 2)).toNat
        refine tt_k 4 (S' := (508, [some (.inr (.inl 1000004)), some (.inr (.inl 0)), some (.inr (.inl 30)), some (.inr (.inl 47)), some (.inl i), o5, o6], [.inl (i + 3), .inr (.inl 1000004), .inl ((xs ((i + 2)).toNat)), .inl ((xs ((i + 1)).toNat)), .inr (.inl 0)], n, D, s, p, c)) rfl ?_
        refine tt_stat (j := 4) (i := (i + 3)) rfl hs (by omega) ?_
        show tt Zi 12 0 (509, [some (.inr (.inl 1000004)), some (.inr (.inl 0)), some (.inr (.inl 30)), some (.inr (.inl 47)), some (.inl i), o5, o6], [.inl ((xs ((i + 3)).toNat)), .inl ((xs ((i + 2)).toNat)), .inl ((xs ((i + 1)).toNat)), .inr (.inl 0)], n, D, s, p, c) _
        have b178 := hxs ((i + 3)).toNat
        refine tt_k 4 (S' := (514, [some (.inr (.inl 1000004)), some (.inr (.inl 0)), some (.inr (.inl 30)), some (.inr (.inl 47)), some (.inl i), o5, o6], [.inl (i + 4), .inr (.inl 1000004), .inl ((xs ((i + 3)).toNat)), .inl ((xs ((i + 2)).toNat)), .inl ((xs ((i + 1)).toNat)), .inr (.inl 0)], n, D, s, p, c)) rfl ?_
        refine tt_stat (j := 4) (i := (i + 4)) rfl hs (by omega) ?_
        show tt Zi 12 0 (515, [some (.inr (.inl 1000004)), some (.inr (.inl 0)), some (.inr (.inl 30)), some (.inr (.inl 47)), some (.inl i), o5, o6], [.inl ((xs ((i + 4)).toNat)), .inl ((xs ((i + 3)).toNat)), .inl ((xs ((i + 2)).toNat)), .inl ((xs ((i + 1)).toNat)), .inr (.inl 0)], n, D, s, p, c) _
        have b179 := hxs ((i + 4)).toNat
        refine tt_k 4 (S' := (520, [some (.inr (.inl 1000004)), some (.inr (.inl 0)), some (.inr (.inl 30)), some (.inr (.inl 47)), some (.inl i), o5, o6], [.inl (i + 5), .inr (.inl 1000004), .inl ((xs ((i + 4)).toNat)), .inl ((xs ((i + 3)).toNat)), .inl ((xs ((i + 2)).toNat)), .inl ((xs ((i + 1)).toNat)), .inr (.inl 0)], n, D, s, p, c)) rfl ?_
        refine tt_stat (j := 4) (i := (i + 5)) rfl hs (by omega) ?_
        show tt Zi 12 0 (521, [some (.inr (.inl 1000004)), some (.inr (.inl 0)), some (.inr (.inl 30)), some (.inr (.inl 47)), some (.inl i), o5, o6], [.inl ((xs ((i + 5)).toNat)), .inl ((xs ((i + 4)).toNat)), .inl ((xs ((i + 3)).toNat)), .inl ((xs ((i + 2)).toNat)), .inl ((xs ((i + 1)).toNat)), .inr (.inl 0)], n, D, s, p, c) _
        have b180 := hxs ((i + 5)).toNat
        refine tt_k 1 (S' := (522, [some (.inr (.inl 1000004)), some (.inr (.inl 0)), some (.inr (.inl 30)), some (.inr (.inl 47)), some (.inl i), o5, o6], [.inr (.inl 47), .inl ((xs ((i + 5)).toNat)), .inl ((xs ((i + 4)).toNat)), .inl ((xs ((i + 3)).toNat)), .inl ((xs ((i + 2)).toNat)), .inl ((xs ((i + 1)).toNat)), .inr (.inl 0)], n, D, s, p, c)) rfl ?_
        refine tt_cl (by omega) rfl (h_feed (Zi := Zi) (q := q) (n := n) (D := D) (s := s) (p := p) (c := c) (by omega) hz (by omega) hD hS hC (wp_rg hW) ((xs ((i + 1)).toNat)) ((xs ((i + 2)).toNat)) ((xs ((i + 3)).toNat)) ((xs ((i + 4)).toNat)) ((xs ((i + 5)).toNat)) (by omega) (by omega) (by omega) (by omega) (by omega)) ?_
        rintro _ ⟨n181, D182, s183, p184, c185⟩ ⟨r187, rfl, b188, hY186, k189, k190⟩
        have hS183 : bS s183 := hY186.1
        have hC185 : bC D182 c185 := hY186.2.1
        have hW184 : wp _ _ n181 D182 p184 s183 := hY186.2.2.1
        have FKc : fk p c n181 p184 c185 [47, 600] := hY186.2.2.2.1
        have FFc : fr s s183 [601, 800, 801, 802, 803, 804, 805, 806, 807, 808, 809, 902, 1705, 1706, 2001, 2002, 2003, 2004, 2005, 2006, 2106, 2107, 2108, 2109, 2110, 2111, 2112, 2113, 2114, 2115, 2116, 2500, 2501, 2502, 2503, 2700, 2701, 2702, 2703] := hY186.2.2.2.2
        replace k189 : r187 = 0 → s 601 + 20 ≤ 32768 ∧ s183 601 = s 601 + 20 ∧ c185 47 0 = s 601 + 20 := k189
        replace k190 : r187 ≠ 0 → r187 = 1 ∧ ¬ (s 601 + 20 ≤ 32768) ∧ s183 601 = s 601 := k190
        show tt Zi 12 0 (525, [some (.inr (.inl 1000004)), some (.inr (.inl 0)), some (.inr (.inl 30)), some (.inr (.inl 47)), some (.inl i), o5, o6], [.inl r187], n181, D182, s183, p184, c185) _
        have tc100 : s183 100 = (s 100) := hW184.gz 100 rfl
        have tc101 : s183 101 = (s 101) := hW184.gz 101 rfl
        have tc102 : s183 102 = (s 102) := hW184.gz 102 rfl
        have tc103 : s183 103 = (s 103) := hW184.gz 103 rfl
        have tc3001 : s183 3001 = (s 3001) := hW184.gz 3001 rfl
        have tc3002 : s183 3002 = (s 3002) := hW184.gz 3002 rfl
        have tc3003 : s183 3003 = (s 3003) := hW184.gz 3003 rfl
        have tc3004 : s183 3004 = (s 3004) := hW184.gz 3004 rfl
        refine tt_k 6 (S' := (533, [some (.inr (.inl 1000004)), some (.inr (.inl 0)), some (.inr (.inl 30)), some (.inr (.inl 47)), some (.inl i), some (.inl r187), o6], [.inl (i + 1), .inr (.inl 1000004), .inr (.inl 30)], n181, D182, s183, p184, c185)) rfl ?_
        refine tt_stat (j := 4) (i := (i + 1)) rfl hs (by omega) ?_
        show tt Zi 12 0 (534, [some (.inr (.inl 1000004)), some (.inr (.inl 0)), some (.inr (.inl 30)), some (.inr (.inl 47)), some (.inl i), some (.inl r187), o6], [.inl ((xs ((i + 1)).toNat)), .inr (.inl 30)], n181, D182, s183, p184, c185) _
        refine tt_k 4 (S' := (539, [some (.inr (.inl 1000004)), some (.inr (.inl 0)), some (.inr (.inl 30)), some (.inr (.inl 47)), some (.inl i), some (.inl r187), o6], [.inl (i + 2), .inr (.inl 1000004), .inl ((xs ((i + 1)).toNat)), .inr (.inl 30)], n181, D182, s183, p184, c185)) rfl ?_
        refine tt_stat (j := 4) (i := (i + 2)) rfl hs (by omega) ?_
        show tt Zi 12 0 (540, [some (.inr (.inl 1000004)), some (.inr (.inl 0)), some (.inr (.inl 30)), some (.inr (.inl 47)), some (.inl i), some (.inl r187), o6], [.inl ((xs ((i + 2)).toNat)), .inl ((xs ((i + 1)).toNat)), .inr (.inl 30)], n181, D182, s183, p184, c185) _
        refine tt_k 4 (S' := (545, [some (.inr (.inl 1000004)), some (.inr (.inl 0)), some (.inr (.inl 30)), some (.inr (.inl 47)), some (.inl i), some (.inl r187), o6], [.inl (i + 3), .inr (.inl 1000004), .inl ((xs ((i + 2)).toNat)), .inl ((xs ((i + 1)).toNat)), .inr (.inl 30)], n181, D182, s183, p184, c185)) rfl ?_
        refine tt_stat (j := 4) (i := (i + 3)) rfl hs (by omega) ?_
        show tt Zi 12 0 (546, [some (.inr (.inl 1000004)), some (.inr (.inl 0)), some (.inr (.inl 30)), some (.inr (.inl 47)), some (.inl i), some (.inl r187), o6], [.inl ((xs ((i + 3)).toNat)), .inl ((xs ((i + 2)).toNat)), .inl ((xs ((i + 1)).toNat)), .inr (.inl 30)], n181, D182, s183, p184, c185) _
        refine tt_k 4 (S' := (551, [some (.inr (.inl 1000004)), some (.inr (.inl 0)), some (.inr (.inl 30)), some (.inr (.inl 47)), some (.inl i), some (.inl r187), o6], [.inl (i + 4), .inr (.inl 1000004), .inl ((xs ((i + 3)).toNat)), .inl ((xs ((i + 2)).toNat)), .inl ((xs ((i + 1)).toNat)), .inr (.inl 30)], n181, D182, s183, p184, c185)) rfl ?_
        refine tt_stat (j := 4) (i := (i + 4)) rfl hs (by omega) ?_
        show tt Zi 12 0 (552, [some (.inr (.inl 1000004)), some (.inr (.inl 0)), some (.inr (.inl 30)), some (.inr (.inl 47)), some (.inl i), some (.inl r187), o6], [.inl ((xs ((i + 4)).toNat)), .inl ((xs ((i + 3)).toNat)), .inl ((xs ((i + 2)).toNat)), .inl ((xs ((i + 1)).toNat)), .inr (.inl 30)], n181, D182, s183, p184, c185) _
        refine tt_k 4 (S' := (557, [some (.inr (.inl 1000004)), some (.inr (.inl 0)), some (.inr (.inl 30)), some (.inr (.inl 47)), some (.inl i), some (.inl r187), o6], [.inl (i + 5), .inr (.inl 1000004), .inl ((xs ((i + 4)).toNat)), .inl ((xs ((i + 3)).toNat)), .inl ((xs ((i + 2)).toNat)), .inl ((xs ((i + 1)).toNat)), .inr (.inl 30)], n181, D182, s183, p184, c185)) rfl ?_
        refine tt_stat (j := 4) (i := (i + 5)) rfl hs (by omega) ?_
        show tt Zi 12 0 (558, [some (.inr (.inl 1000004)), some (.inr (.inl 0)), some (.inr (.inl 30)), some (.inr (.inl 47)), some (.inl i), some (.inl r187), o6], [.inl ((xs ((i + 5)).toNat)), .inl ((xs ((i + 4)).toNat)), .inl ((xs ((i + 3)).toNat)), .inl ((xs ((i + 2)).toNat)), .inl ((xs ((i + 1)).toNat)), .inr (.inl 30)], n181, D182, s183, p184, c185) _
        refine tt_cl (by omega) rfl (k_feed3 (Zi := Zi) (D := D182) (s := s183) (p := p184) (c := c185) (by omega) hS183 hC185 ((xs ((i + 1)).toNat)) ((xs ((i + 2)).toNat)) ((xs ((i + 3)).toNat)) ((xs ((i + 4)).toNat)) ((xs ((i + 5)).toNat)) (by omega) (by omega) (by omega) (by omega) (by omega)) ?_
        rintro _ _ ⟨s191, c192, r193, rfl, rfl, hS191, hC192, f194, g195, b196, k197, k198, k199⟩
        have hW200 := wp_rf f194 (by decide) hW184
        show tt Zi 12 0 (561, [some (.inr (.inl 1000004)), some (.inr (.inl 0)), some (.inr (.inl 30)), some (.inr (.inl 47)), some (.inl i), some (.inl r187), o6], [.inl r193], n181, D182, s191, p184, c192) _
        have te100 : s191 100 = (s183 100) := f194 100 (by decide)
        have te101 : s191 101 = (s183 101) := f194 101 (by decide)
        have te102 : s191 102 = (s183 102) := f194 102 (by decide)
        have te103 : s191 103 = (s183 103) := f194 103 (by decide)
        have te3001 : s191 3001 = (s183 3001) := f194 3001 (by decide)
        have te3002 : s191 3002 = (s183 3002) := f194 3002 (by decide)
        have te3003 : s191 3003 = (s183 3003) := f194 3003 (by decide)
        have te3004 : s191 3004 = (s183 3004) := f194 3004 (by decide)
        have ht2 : tie s191 := ⟨te100.trans (tc100.trans (ht.1.trans (tc3001.symm.trans te3001.symm))), te101.trans (tc101.trans (ht.2.1.trans (tc3002.symm.trans te3002.symm))), te102.trans (tc102.trans (ht.2.2.1.trans (tc3003.symm.trans te3003.symm))), te103.trans (tc103.trans (ht.2.2.2.trans (tc3004.symm.trans te3004.symm)))⟩
        have FKr := fk_rc FKc.1 g195 (by decide)
        have tS2 : tiS s191 p184 c192 := tiS_fk (tiS_fk ⟨E, hcE, hrE⟩ FKc (by decide) tc100 tc101 tc102) FKr (by decide) te100 te101 te102
        have q1 : tqC c192 := tqC_f hQ.1 FKc FKr (by decide)
        have q2 : tqW s191 := tqW_f (tqW_f hQ.2.1 FFc (by decide)) f194 (by decide)
        have q3 : tqP s191 p184 c192 := tqP_f hQ.2.2.1 FKc FKr (by decide) FFc (by decide) f194 (by decide)
        have hqt := fd_q hQ.2.2.2 k189 k190 (tqN FFc (by decide)) k197 k198 k199
        rw [← show c192 47 = c185 47 from g195 47 (by decide)] at hqt
        have q4 : tqT s191 := (f194 601 (by decide)).trans hqt.2.2
        have tQ2 : tiQ s191 p184 c192 := ⟨q1, q2, q3, q4⟩
        clear tc100 tc101 tc102 tc103 tc3001 tc3002 tc3003 tc3004 te100 te101 te102 te103 te3001 te3002 te3003 te3004
        refine tt_k 4 (S' := (23, [some (.inr (.inl 1000004)), some (.inr (.inl 0)), some (.inr (.inl 30)), some (.inr (.inl 47)), some (.inl (i + 9)), some (.inl r187), some (.inl r193)], [], n181, D182, s191, p184, c192)) rfl ?_
        exact ih (q + 1) (i + 9) (some (.inl r187)) (some (.inl r193)) (n181, D182, s191, p184, c192) ⟨hS191, hC192, (wp_rg hW200), FKr.1⟩ ht2 tS2 tQ2 (by omega) (by omega) (by omega) (by omega)
      by_cases h201 : (mi_and (xs (i).toNat) 15) = 8
      · have h202 := h201
        refine tt_tsw (x := (mi_and (xs (i).toNat) 15)) (off := 526) rfl (by omega) (by omega) (by rw [h201]; rfl) rfl ?_
        show tt Zi 12 0 (566, [some (.inr (.inl 1000004)), some (.inr (.inl 0)), some (.inr (.inl 30)), some (.inr (.inl 47)), some (.inl i), o5, o6], [], n, D, s, p, c) _
        refine tt_k 5 (S' := (572, [some (.inr (.inl 1000004)), some (.inr (.inl 0)), some (.inr (.inl 30)), some (.inr (.inl 47)), some (.inl i), o5, o6], [.inl (i + 1), .inr (.inl 1000004), .inr (.inl 0)], n, D, s, p, c)) rfl ?_
        refine tt_stat (j := 4) (i := (i + 1)) rfl hs (by omega) ?_
        show tt Zi 12 0 (573, [some (.inr (.inl 1000004)), some (.inr (.inl 0)), some (.inr (.inl 30)), some (.inr (.inl 47)), some (.inl i), o5, o6], [.inl ((xs ((i + 1)).toNat)), .inr (.inl 0)], n, D, s, p, c) _
        have b203 := hxs ((i + 1)).toNat
        refine tt_cl (by omega) rfl (h_end (Zi := Zi) (q := q) (n := n) (D := D) (s := s) (p := p) (c := c) (by omega) hz (by omega) hD hS hC (wp_rg hW) ((xs ((i + 1)).toNat)) (by omega)) ?_
        rintro _ ⟨n204, D205, s206, p207, c208⟩ ⟨r210, rfl, b211, hY209, k212, k213⟩
        have hS206 : bS s206 := hY209.1
        have hC208 : bC D205 c208 := hY209.2.1
        have hW207 : wp _ _ n204 D205 p207 s206 := hY209.2.2.1
        have FKc : fk p c n204 p207 c208 [] := hY209.2.2.2.1
        have FFc : fr s s206 [601, 800, 801, 802, 803, 804, 805, 806, 807, 808, 809, 902, 1705, 1706, 2001, 2002, 2003, 2004, 2005, 2006, 2106, 2107, 2108, 2109, 2110, 2111, 2112, 2113, 2114, 2115, 2116, 2500, 2501, 2502, 2503, 2700, 2701, 2702, 2703] := hY209.2.2.2.2
        replace k212 : r210 = 0 → (0 ≤ ((xs ((i + 1)).toNat)) ∧ ((xs ((i + 1)).toNat)) ≤ s 601) ∧ s206 601 = ((xs ((i + 1)).toNat)) := k212
        replace k213 : r210 ≠ 0 → r210 = 1 ∧ ¬ (0 ≤ ((xs ((i + 1)).toNat)) ∧ ((xs ((i + 1)).toNat)) ≤ s 601) ∧ s206 601 = s 601 := k213
        show tt Zi 12 0 (576, [some (.inr (.inl 1000004)), some (.inr (.inl 0)), some (.inr (.inl 30)), some (.inr (.inl 47)), some (.inl i), o5, o6], [.inl r210], n204, D205, s206, p207, c208) _
        have tc100 : s206 100 = (s 100) := hW207.gz 100 rfl
        have tc101 : s206 101 = (s 101) := hW207.gz 101 rfl
        have tc102 : s206 102 = (s 102) := hW207.gz 102 rfl
        have tc103 : s206 103 = (s 103) := hW207.gz 103 rfl
        have tc3001 : s206 3001 = (s 3001) := hW207.gz 3001 rfl
        have tc3002 : s206 3002 = (s 3002) := hW207.gz 3002 rfl
        have tc3003 : s206 3003 = (s 3003) := hW207.gz 3003 rfl
        have tc3004 : s206 3004 = (s 3004) := hW207.gz 3004 rfl
        refine tt_k 6 (S' := (584, [some (.inr (.inl 1000004)), some (.inr (.inl 0)), some (.inr (.inl 30)), some (.inr (.inl 47)), some (.inl i), some (.inl r210), o6], [.inl (i + 1), .inr (.inl 1000004), .inr (.inl 30)], n204, D205, s206, p207, c208)) rfl ?_
        refine tt_stat (j := 4) (i := (i + 1)) rfl hs (by omega) ?_
        show tt Zi 12 0 (585, [some (.inr (.inl 1000004)), some (.inr (.inl 0)), some (.inr (.inl 30)), some (.inr (.inl 47)), some (.inl i), some (.inl r210), o6], [.inl ((xs ((i + 1)).toNat)), .inr (.inl 30)], n204, D205, s206, p207, c208) _
        refine tt_cl (by omega) rfl (k_end (Zi := Zi) (D := D205) (s := s206) (p := p207) (c := c208) (by omega) hS206 hC208 ((xs ((i + 1)).toNat)) (by omega)) ?_
        rintro _ _ ⟨s214, rfl, rfl, hS214, f215, k216, k217⟩
        have hW218 := wp_rf f215 (by decide) hW207
        show tt Zi 12 0 (588, [some (.inr (.inl 1000004)), some (.inr (.inl 0)), some (.inr (.inl 30)), some (.inr (.inl 47)), some (.inl i), some (.inl r210), o6], [], n204, D205, s214, p207, c208) _
        have te100 : s214 100 = (s206 100) := f215 100 (by decide)
        have te101 : s214 101 = (s206 101) := f215 101 (by decide)
        have te102 : s214 102 = (s206 102) := f215 102 (by decide)
        have te103 : s214 103 = (s206 103) := f215 103 (by decide)
        have te3001 : s214 3001 = (s206 3001) := f215 3001 (by decide)
        have te3002 : s214 3002 = (s206 3002) := f215 3002 (by decide)
        have te3003 : s214 3003 = (s206 3003) := f215 3003 (by decide)
        have te3004 : s214 3004 = (s206 3004) := f215 3004 (by decide)
        have ht2 : tie s214 := ⟨te100.trans (tc100.trans (ht.1.trans (tc3001.symm.trans te3001.symm))), te101.trans (tc101.trans (ht.2.1.trans (tc3002.symm.trans te3002.symm))), te102.trans (tc102.trans (ht.2.2.1.trans (tc3003.symm.trans te3003.symm))), te103.trans (tc103.trans (ht.2.2.2.trans (tc3004.symm.trans te3004.symm)))⟩
        have FKr := fk_rf (c := c208) (K := []) FKc.1
        have tS2 : tiS s214 p207 c208 := tiS_fk (tiS_fk ⟨E, hcE, hrE⟩ FKc (by decide) tc100 tc101 tc102) FKr (by decide) te100 te101 te102
        have q1 : tqC c208 := tqC_f hQ.1 FKc FKr (by decide)
        have q2 : tqW s214 := tqW_f (tqW_f hQ.2.1 FFc (by decide)) f215 (by decide)
        have q3 : tqP s214 p207 c208 := tqP_f hQ.2.2.1 FKc FKr (by decide) FFc (by decide) f215 (by decide)
        have hqt := en_q hQ.2.2.2 k212 k213 (tqN FFc (by decide)) k216 k217
        have q4 : tqT s214 := (f215 601 (by decide)).trans hqt.2
        have tQ2 : tiQ s214 p207 c208 := ⟨q1, q2, q3, q4⟩
        clear tc100 tc101 tc102 tc103 tc3001 tc3002 tc3003 tc3004 te100 te101 te102 te103 te3001 te3002 te3003 te3004
        refine tt_k 3 (S' := (23, [some (.inr (.inl 1000004)), some (.inr (.inl 0)), some (.inr (.inl 30)), some (.inr (.inl 47)), some (.inl (i + 9)), some (.inl r210), o6], [], n204, D205, s214, p207, c208)) rfl ?_
        exact ih (q + 1) (i + 9) (some (.inl r210)) (o6) (n204, D205, s214, p207, c208) ⟨hS214, hC208, (wp_rg hW218), FKr.1⟩ ht2 tS2 tQ2 (by omega) (by omega) (by omega) (by omega)
      by_cases h219 : (mi_and (xs (i).toNat) 15) = 9
      · have h220 := h219
        refine tt_tsw (x := (mi_and (xs (i).toNat) 15)) (off := 551) rfl (by omega) (by omega) (by rw [h219]; rfl) rfl ?_
        show tt Zi 12 0 (591, [some (.inr (.inl 1000004)), some (.inr (.inl 0)), some (.inr (.inl 30)), some (.inr (.inl 47)), some (.inl i), o5, o6], [], n, D, s, p, c) _
        refine tt_k 5 (S' := (597, [some (.inr (.inl 1000004)), some (.inr (.inl 0)), some (.inr (.inl 30)), some (.inr (.inl 47)), some (.inl i), o5, o6], [.inl (i + 1), .inr (.inl 1000004), .inr (.inl 0)], n, D, s, p, c)) rfl ?_
        refine tt_stat (j := 4) (i := (i + 1)) rfl hs (by omega) ?_
        show tt Zi 12 0 (598, [some (.inr (.inl 1000004)), some (.inr (.inl 0)), some (.inr (.inl 30)), some (.inr (.inl 47)), some (.inl i), o5, o6], [.inl ((xs ((i + 1)).toNat)), .inr (.inl 0)], n, D, s, p, c) _
        have b221 := hxs ((i + 1)).toNat
        refine tt_k 4 (S' := (603, [some (.inr (.inl 1000004)), some (.inr (.inl 0)), some (.inr (.inl 30)), some (.inr (.inl 47)), some (.inl i), o5, o6], [.inl (i + 2), .inr (.inl 1000004), .inl ((xs ((i + 1)).toNat)), .inr (.inl 0)], n, D, s, p, c)) rfl ?_
        refine tt_stat (j := 4) (i := (i + 2)) rfl hs (by omega) ?_
        show tt Zi 12 0 (604, [some (.inr (.inl 1000004)), some (.inr (.inl 0)), some (.inr (.inl 30)), some (.inr (.inl 47)), some (.inl i), o5, o6], [.inl ((xs ((i + 2)).toNat)), .inl ((xs ((i + 1)).toNat)), .inr (.inl 0)], n, D, s, p, c) _
        have b222 := hxs ((i + 2)).toNat
        refine tt_k 1 (S' := (605, [some (.inr (.inl 1000004)), some (.inr (.inl 0)), some (.inr (.inl 30)), some (.inr (.inl 47)), some (.inl i), o5, o6], [.inr (.inl 47), .inl ((xs ((i + 2)).toNat)), .inl ((xs ((i + 1)).toNat)), .inr (.inl 0)], n, D, s, p, c)) rfl ?_
        refine tt_cl (by omega) rfl (h_change (Zi := Zi) (q := q) (n := n) (D := D) (s := s) (p := p) (c := c) (by omega) hz (by omega) hD hS hC (wp_rg hW) ((xs ((i + 1)).toNat)) ((xs ((i + 2)).toNat)) (by omega) (by omega)) ?_
        rintro _ ⟨n223, D224, s225, p226, c227⟩ ⟨r229, rfl, b230, hY228, k231⟩
        have hS225 : bS s225 := hY228.1
        have hC227 : bC D224 c227 := hY228.2.1
        have hW226 : wp _ _ n223 D224 p226 s225 := hY228.2.2.1
        have FKc : fk p c n223 p226 c227 [47, 600] := hY228.2.2.2.1
        have FFc : fr s s225 [800, 801, 802, 803, 804, 805, 806, 807, 808, 809, 902, 1705, 1706, 2001, 2002, 2003, 2004, 2005, 2006, 2106, 2107, 2108, 2109, 2110, 2111, 2112, 2113, 2114, 2115, 2116, 2500, 2501, 2502, 2503, 2700, 2701, 2702, 2703] := hY228.2.2.2.2
        replace k231 : chP r229 ((xs ((i + 1)).toNat)) ((xs ((i + 2)).toNat)) (s 601) := k231
        show tt Zi 12 0 (608, [some (.inr (.inl 1000004)), some (.inr (.inl 0)), some (.inr (.inl 30)), some (.inr (.inl 47)), some (.inl i), o5, o6], [.inl r229], n223, D224, s225, p226, c227) _
        have tc100 : s225 100 = (s 100) := hW226.gz 100 rfl
        have tc101 : s225 101 = (s 101) := hW226.gz 101 rfl
        have tc102 : s225 102 = (s 102) := hW226.gz 102 rfl
        have tc103 : s225 103 = (s 103) := hW226.gz 103 rfl
        have tc3001 : s225 3001 = (s 3001) := hW226.gz 3001 rfl
        have tc3002 : s225 3002 = (s 3002) := hW226.gz 3002 rfl
        have tc3003 : s225 3003 = (s 3003) := hW226.gz 3003 rfl
        have tc3004 : s225 3004 = (s 3004) := hW226.gz 3004 rfl
        refine tt_k 6 (S' := (616, [some (.inr (.inl 1000004)), some (.inr (.inl 0)), some (.inr (.inl 30)), some (.inr (.inl 47)), some (.inl i), some (.inl r229), o6], [.inl (i + 1), .inr (.inl 1000004), .inr (.inl 30)], n223, D224, s225, p226, c227)) rfl ?_
        refine tt_stat (j := 4) (i := (i + 1)) rfl hs (by omega) ?_
        show tt Zi 12 0 (617, [some (.inr (.inl 1000004)), some (.inr (.inl 0)), some (.inr (.inl 30)), some (.inr (.inl 47)), some (.inl i), some (.inl r229), o6], [.inl ((xs ((i + 1)).toNat)), .inr (.inl 30)], n223, D224, s225, p226, c227) _
        refine tt_k 4 (S' := (622, [some (.inr (.inl 1000004)), some (.inr (.inl 0)), some (.inr (.inl 30)), some (.inr (.inl 47)), some (.inl i), some (.inl r229), o6], [.inl (i + 2), .inr (.inl 1000004), .inl ((xs ((i + 1)).toNat)), .inr (.inl 30)], n223, D224, s225, p226, c227)) rfl ?_
        refine tt_stat (j := 4) (i := (i + 2)) rfl hs (by omega) ?_
        show tt Zi 12 0 (623, [some (.inr (.inl 1000004)), some (.inr (.inl 0)), some (.inr (.inl 30)), some (.inr (.inl 47)), some (.inl i), some (.inl r229), o6], [.inl ((xs ((i + 2)).toNat)), .inl ((xs ((i + 1)).toNat)), .inr (.inl 30)], n223, D224, s225, p226, c227) _
        refine tt_cl (by omega) rfl (k_change3 (Zi := Zi) (D := D224) (s := s225) (p := p226) (c := c227) (by omega) hS225 hC227 ((xs ((i + 1)).toNat)) ((xs ((i + 2)).toNat)) (by omega) (by omega)) ?_
        rintro _ _ ⟨s232, c233, r234, rfl, rfl, hS232, hC233, f235, g236, b237, k238⟩
        have hW239 := wp_rf f235 (by decide) hW226
        show tt Zi 12 0 (626, [some (.inr (.inl 1000004)), some (.inr (.inl 0)), some (.inr (.inl 30)), some (.inr (.inl 47)), some (.inl i), some (.inl r229), o6], [.inl r234], n223, D224, s232, p226, c233) _
        have te100 : s232 100 = (s225 100) := f235 100 (by decide)
        have te101 : s232 101 = (s225 101) := f235 101 (by decide)
        have te102 : s232 102 = (s225 102) := f235 102 (by decide)
        have te103 : s232 103 = (s225 103) := f235 103 (by decide)
        have te3001 : s232 3001 = (s225 3001) := f235 3001 (by decide)
        have te3002 : s232 3002 = (s225 3002) := f235 3002 (by decide)
        have te3003 : s232 3003 = (s225 3003) := f235 3003 (by decide)
        have te3004 : s232 3004 = (s225 3004) := f235 3004 (by decide)
        have ht2 : tie s232 := ⟨te100.trans (tc100.trans (ht.1.trans (tc3001.symm.trans te3001.symm))), te101.trans (tc101.trans (ht.2.1.trans (tc3002.symm.trans te3002.symm))), te102.trans (tc102.trans (ht.2.2.1.trans (tc3003.symm.trans te3003.symm))), te103.trans (tc103.trans (ht.2.2.2.trans (tc3004.symm.trans te3004.symm)))⟩
        have FKr := fk_rc FKc.1 g236 (by decide)
        have tS2 : tiS s232 p226 c233 := tiS_fk (tiS_fk ⟨E, hcE, hrE⟩ FKc (by decide) tc100 tc101 tc102) FKr (by decide) te100 te101 te102
        have q1 : tqC c233 := tqC_f hQ.1 FKc FKr (by decide)
        have q2 : tqW s232 := tqW_f (tqW_f hQ.2.1 FFc (by decide)) f235 (by decide)
        have q3 : tqP s232 p226 c233 := tqP_f hQ.2.2.1 FKc FKr (by decide) FFc (by decide) f235 (by decide)
        have q4 : tqT s232 := tqT_f (tqT_f hQ.2.2.2 FFc (by decide)) f235 (by decide)
        have hqt := ch_q hQ.2.2.2 k231 (tqN FFc (by decide)) k238
        have tQ2 : tiQ s232 p226 c233 := ⟨q1, q2, q3, q4⟩
        clear tc100 tc101 tc102 tc103 tc3001 tc3002 tc3003 tc3004 te100 te101 te102 te103 te3001 te3002 te3003 te3004
        refine tt_k 4 (S' := (23, [some (.inr (.inl 1000004)), some (.inr (.inl 0)), some (.inr (.inl 30)), some (.inr (.inl 47)), some (.inl (i + 9)), some (.inl r229), some (.inl r234)], [], n223, D224, s232, p226, c233)) rfl ?_
        exact ih (q + 1) (i + 9) (some (.inl r229)) (some (.inl r234)) (n223, D224, s232, p226, c233) ⟨hS232, hC233, (wp_rg hW239), FKr.1⟩ ht2 tS2 tQ2 (by omega) (by omega) (by omega) (by omega)
      by_cases h240 : (mi_and (xs (i).toNat) 15) = 10
      · have h241 := h240
        refine tt_tsw (x := (mi_and (xs (i).toNat) 15)) (off := 591) rfl (by omega) (by omega) (by rw [h240]; rfl) rfl ?_
        show tt Zi 12 0 (631, [some (.inr (.inl 1000004)), some (.inr (.inl 0)), some (.inr (.inl 30)), some (.inr (.inl 47)), some (.inl i), o5, o6], [], n, D, s, p, c) _
        refine tt_k 2 (S' := (633, [some (.inr (.inl 1000004)), some (.inr (.inl 0)), some (.inr (.inl 30)), some (.inr (.inl 47)), some (.inl i), o5, o6], [.inr (.inl 47), .inr (.inl 0)], n, D, s, p, c)) rfl ?_
        refine tt_cl (by omega) rfl (h_turn (Zi := Zi) (q := q) (n := n) (D := D) (s := s) (p := p) (c := c) (by omega) hz (by omega) hD hS hC (wp_rg hW) ) ?_
        rintro _ ⟨n242, D243, s244, p245, c246⟩ ⟨r248, rfl, b249, hY247, k250, k251⟩
        have hS244 : bS s244 := hY247.1
        have hC246 : bC D243 c246 := hY247.2.1
        have hW245 : wp _ _ n242 D243 p245 s244 := hY247.2.2.1
        have FKc : fk p c n242 p245 c246 [47, 600] := hY247.2.2.2.1
        have FFc : fr s s244 [601, 800, 801, 802, 803, 804, 805, 806, 807, 808, 809, 902, 1705, 1706, 2001, 2002, 2003, 2004, 2005, 2006, 2106, 2107, 2108, 2109, 2110, 2111, 2112, 2113, 2114, 2115, 2116, 2500, 2501, 2502, 2503, 2700, 2701, 2702, 2703] := hY247.2.2.2.2
        replace k250 : r248 = 0 → s 401 ≤ 32768 ∧ s244 601 = s 401 ∧ c246 47 0 = s 401 := k250
        replace k251 : r248 ≠ 0 → r248 = 1 ∧ ¬ (s 401 ≤ 32768) ∧ s244 601 = s 601 := k251
        show tt Zi 12 0 (636, [some (.inr (.inl 1000004)), some (.inr (.inl 0)), some (.inr (.inl 30)), some (.inr (.inl 47)), some (.inl i), o5, o6], [.inl r248], n242, D243, s244, p245, c246) _
        have tc100 : s244 100 = (s 100) := hW245.gz 100 rfl
        have tc101 : s244 101 = (s 101) := hW245.gz 101 rfl
        have tc102 : s244 102 = (s 102) := hW245.gz 102 rfl
        have tc103 : s244 103 = (s 103) := hW245.gz 103 rfl
        have tc3001 : s244 3001 = (s 3001) := hW245.gz 3001 rfl
        have tc3002 : s244 3002 = (s 3002) := hW245.gz 3002 rfl
        have tc3003 : s244 3003 = (s 3003) := hW245.gz 3003 rfl
        have tc3004 : s244 3004 = (s 3004) := hW245.gz 3004 rfl
        refine tt_k 2 (S' := (639, [some (.inr (.inl 1000004)), some (.inr (.inl 0)), some (.inr (.inl 30)), some (.inr (.inl 47)), some (.inl i), some (.inl r248), o6], [.inr (.inl 30)], n242, D243, s244, p245, c246)) rfl ?_
        refine tt_cl (by omega) rfl (k_turn3 (Zi := Zi) (D := D243) (s := s244) (p := p245) (c := c246) (by omega) hS244 hC246 ) ?_
        rintro _ _ ⟨s252, c253, r254, rfl, rfl, hS252, hC253, f255, g256, b257, k258, k259, k260⟩
        have hW261 := wp_rf f255 (by decide) hW245
        show tt Zi 12 0 (642, [some (.inr (.inl 1000004)), some (.inr (.inl 0)), some (.inr (.inl 30)), some (.inr (.inl 47)), some (.inl i), some (.inl r248), o6], [.inl r254], n242, D243, s252, p245, c253) _
        have te100 : s252 100 = (s244 100) := f255 100 (by decide)
        have te101 : s252 101 = (s244 101) := f255 101 (by decide)
        have te102 : s252 102 = (s244 102) := f255 102 (by decide)
        have te103 : s252 103 = (s244 103) := f255 103 (by decide)
        have te3001 : s252 3001 = (s244 3001) := f255 3001 (by decide)
        have te3002 : s252 3002 = (s244 3002) := f255 3002 (by decide)
        have te3003 : s252 3003 = (s244 3003) := f255 3003 (by decide)
        have te3004 : s252 3004 = (s244 3004) := f255 3004 (by decide)
        have ht2 : tie s252 := ⟨te100.trans (tc100.trans (ht.1.trans (tc3001.symm.trans te3001.symm))), te101.trans (tc101.trans (ht.2.1.trans (tc3002.symm.trans te3002.symm))), te102.trans (tc102.trans (ht.2.2.1.trans (tc3003.symm.trans te3003.symm))), te103.trans (tc103.trans (ht.2.2.2.trans (tc3004.symm.trans te3004.symm)))⟩
        have FKr := fk_rc FKc.1 g256 (by decide)
        have tS2 : tiS s252 p245 c253 := tiS_fk (tiS_fk ⟨E, hcE, hrE⟩ FKc (by decide) tc100 tc101 tc102) FKr (by decide) te100 te101 te102
        have q1 : tqC c253 := tqC_f hQ.1 FKc FKr (by decide)
        have q2 : tqW s252 := tqW_f (tqW_f hQ.2.1 FFc (by decide)) f255 (by decide)
        have q3 : tqP s252 p245 c253 := tqP_f hQ.2.2.1 FKc FKr (by decide) FFc (by decide) f255 (by decide)
        have hqt := tu_q hQ.2.2.2 hQ.2.2.1.1 k250 k251 (tqN FFc (by decide)) (tqZ FFc (by decide)) k258 k259 k260
        rw [← show c253 47 = c246 47 from g256 47 (by decide)] at hqt
        have q4 : tqT s252 := (f255 601 (by decide)).trans hqt.2.2
        have tQ2 : tiQ s252 p245 c253 := ⟨q1, q2, q3, q4⟩
        clear tc100 tc101 tc102 tc103 tc3001 tc3002 tc3003 tc3004 te100 te101 te102 te103 te3001 te3002 te3003 te3004
        refine tt_k 2 (S' := (645, [some (.inr (.inl 1000004)), some (.inr (.inl 0)), some (.inr (.inl 30)), some (.inr (.inl 47)), some (.inl i), some (.inl r248), some (.inl r254)], [.inr (.inl 30)], n242, D243, s252, p245, c253)) rfl ?_
        refine tt_cl (by omega) rfl (k_thrown (Zi := Zi) (D := D243) (s := s252) (p := p245) (c := c253) (by omega) hS252 hC253 ) ?_
        rintro _ _ ⟨r262, rfl, rfl, b263, k264⟩
        show tt Zi 12 0 (648, [some (.inr (.inl 1000004)), some (.inr (.inl 0)), some (.inr (.inl 30)), some (.inr (.inl 47)), some (.inl i), some (.inl r248), some (.inl r254)], [.inl r262], n242, D243, s252, p245, c253) _
        refine tt_k 1 (S' := (650, [some (.inr (.inl 1000004)), some (.inr (.inl 0)), some (.inr (.inl 30)), some (.inr (.inl 47)), some (.inl i), some (.inl r248), some (.inl r254)], [.inl r248, .inl r262], n242, D243, s252, p245, c253)) rfl ?_
        refine tb_eq (x := r262) (y := r248) rfl rfl (by omega) (fun h265 => ?_) (fun h265 => ?_)
        · show tt Zi 12 0 (655, [some (.inr (.inl 1000004)), some (.inr (.inl 0)), some (.inr (.inl 30)), some (.inr (.inl 47)), some (.inl i), some (.inl r248), some (.inl r254)], [], n242, D243, s252, p245, c253) _
          refine tt_k 1 (S' := (657, [some (.inr (.inl 1000004)), some (.inr (.inl 0)), some (.inr (.inl 30)), some (.inr (.inl 47)), some (.inl i), some (.inl r248), some (.inl r254)], [.inl r248], n242, D243, s252, p245, c253)) rfl ?_
          refine tz_ne (x := r248) rfl rfl (by omega) (fun h266 => ?_) (fun h266 => ?_)
          · show tt Zi 12 0 (672, [some (.inr (.inl 1000004)), some (.inr (.inl 0)), some (.inr (.inl 30)), some (.inr (.inl 47)), some (.inl i), some (.inl r248), some (.inl r254)], [], n242, D243, s252, p245, c253) _
            refine tt_k 3 (S' := (23, [some (.inr (.inl 1000004)), some (.inr (.inl 0)), some (.inr (.inl 30)), some (.inr (.inl 47)), some (.inl (i + 9)), some (.inl r248), some (.inl r254)], [], n242, D243, s252, p245, c253)) rfl ?_
            exact ih (q + 1) (i + 9) (some (.inl r248)) (some (.inl r254)) (n242, D243, s252, p245, c253) ⟨hS252, hC253, (wp_rg hW261), FKr.1⟩ ht2 tS2 tQ2 (by omega) (by omega) (by omega) (by omega)
          · show tt Zi 12 0 (660, [some (.inr (.inl 1000004)), some (.inr (.inl 0)), some (.inr (.inl 30)), some (.inr (.inl 47)), some (.inl i), some (.inl r248), some (.inl r254)], [], n242, D243, s252, p245, c253) _
            refine tt_k 2 (S' := (662, [some (.inr (.inl 1000004)), some (.inr (.inl 0)), some (.inr (.inl 30)), some (.inr (.inl 47)), some (.inl i), some (.inl r248), some (.inl r254)], [.inl 0, .inr (.inl 47)], n242, D243, s252, p245, c253)) rfl ?_
            refine tt_llb (a := 47) (i := 0) (m := 1) rfl rfl (by omega) hC253 ⟨rfl, rfl⟩ ?_
            intro v267 bv267 hvv267
            have hwv267 : c253 47 0 = v267 := hvv267
            show tt Zi 12 0 (663, [some (.inr (.inl 1000004)), some (.inr (.inl 0)), some (.inr (.inl 30)), some (.inr (.inl 47)), some (.inl i), some (.inl r248), some (.inl r254)], [.inr (.inr v267)], n242, D243, s252, p245, c253) _
            refine tt_k 1 (S' := (665, [some (.inr (.inl 1000004)), some (.inr (.inl 0)), some (.inr (.inl 30)), some (.inr (.inl 47)), some (.inl i), some (.inl r248), some (.inl r254)], [.inl r254, .inr (.inr v267)], n242, D243, s252, p245, c253)) rfl ?_
            refine tt_i2l (x := r254) rfl (by omega) ?_
            refine tt_k 1 (S' := (667, [some (.inr (.inl 1000004)), some (.inr (.inl 0)), some (.inr (.inl 30)), some (.inr (.inl 47)), some (.inl i), some (.inl r248), some (.inl r254)], [.inl (mi_lcmp v267 r254)], n242, D243, s252, p245, c253)) rfl ?_
            have b268 := mi_lcmp_eq (x := v267) (y := r254) (by omega) (by omega)
            have e269 := mi_lcmp_lt (x := v267) (y := r254) (by omega) (by omega)
            refine tz_eq (x := (mi_lcmp v267 r254)) rfl rfl (by omega) (fun h270 => ?_) (fun h270 => ?_)
            · show tt Zi 12 0 (672, [some (.inr (.inl 1000004)), some (.inr (.inl 0)), some (.inr (.inl 30)), some (.inr (.inl 47)), some (.inl i), some (.inl r248), some (.inl r254)], [], n242, D243, s252, p245, c253) _
              refine tt_k 3 (S' := (23, [some (.inr (.inl 1000004)), some (.inr (.inl 0)), some (.inr (.inl 30)), some (.inr (.inl 47)), some (.inl (i + 9)), some (.inl r248), some (.inl r254)], [], n242, D243, s252, p245, c253)) rfl ?_
              exact ih (q + 1) (i + 9) (some (.inl r248)) (some (.inl r254)) (n242, D243, s252, p245, c253) ⟨hS252, hC253, (wp_rg hW261), FKr.1⟩ ht2 tS2 tQ2 (by omega) (by omega) (by omega) (by omega)
            · show tt Zi 12 0 (670, [some (.inr (.inl 1000004)), some (.inr (.inl 0)), some (.inr (.inl 30)), some (.inr (.inl 47)), some (.inl i), some (.inl r248), some (.inl r254)], [], n242, D243, s252, p245, c253) _
              refine tt_k 1 (S' := (671, [some (.inr (.inl 1000004)), some (.inr (.inl 0)), some (.inr (.inl 30)), some (.inr (.inl 47)), some (.inl i), some (.inl r248), some (.inl r254)], [.inl 0], n242, D243, s252, p245, c253)) rfl ?_
              exfalso
              omega
        · show tt Zi 12 0 (653, [some (.inr (.inl 1000004)), some (.inr (.inl 0)), some (.inr (.inl 30)), some (.inr (.inl 47)), some (.inl i), some (.inl r248), some (.inl r254)], [], n242, D243, s252, p245, c253) _
          refine tt_k 1 (S' := (654, [some (.inr (.inl 1000004)), some (.inr (.inl 0)), some (.inr (.inl 30)), some (.inr (.inl 47)), some (.inl i), some (.inl r248), some (.inl r254)], [.inl 0], n242, D243, s252, p245, c253)) rfl ?_
          exfalso
          omega
      by_cases h271 : (mi_and (xs (i).toNat) 15) = 11
      · have h272 := h271
        refine tt_tsw (x := (mi_and (xs (i).toNat) 15)) (off := 635) rfl (by omega) (by omega) (by rw [h271]; rfl) rfl ?_
        show tt Zi 12 0 (675, [some (.inr (.inl 1000004)), some (.inr (.inl 0)), some (.inr (.inl 30)), some (.inr (.inl 47)), some (.inl i), o5, o6], [], n, D, s, p, c) _
        refine tt_k 1 (S' := (676, [some (.inr (.inl 1000004)), some (.inr (.inl 0)), some (.inr (.inl 30)), some (.inr (.inl 47)), some (.inl i), o5, o6], [.inr (.inl 0)], n, D, s, p, c)) rfl ?_
        refine tt_cl (by omega) rfl (g_unpack (Zi := Zi) (q := q) (n := n) (D := D) (s := s) (p := p) (c := c) (by omega) hz (by omega) hD hS hC (wp_rg hW) ) ?_
        rintro _ ⟨n273, D274, s275, p276, c277⟩ ⟨r279, rfl, b280, hY278⟩
        have hS275 : bS s275 := hY278.1
        have hC277 : bC D274 c277 := hY278.2.1
        have hW276 : wp _ _ n273 D274 p276 s275 := hY278.2.2.1
        have FKc : fk p c n273 p276 c277 [18, 19, 900, 901, 2103, 2104, 2504, 2704] := hY278.2.2.2.1
        have FFc : fr s s275 [10, 11, 800, 801, 802, 803, 804, 805, 806, 807, 808, 809, 902, 1705, 1706, 2001, 2002, 2003, 2004, 2005, 2006, 2106, 2107, 2108, 2109, 2110, 2111, 2112, 2113, 2114, 2115, 2116, 2500, 2501, 2502, 2503, 2700, 2701, 2702, 2703] := hY278.2.2.2.2
        show tt Zi 12 0 (679, [some (.inr (.inl 1000004)), some (.inr (.inl 0)), some (.inr (.inl 30)), some (.inr (.inl 47)), some (.inl i), o5, o6], [.inl r279], n273, D274, s275, p276, c277) _
        have tc100 : s275 100 = (s 100) := hW276.gz 100 rfl
        have tc101 : s275 101 = (s 101) := hW276.gz 101 rfl
        have tc102 : s275 102 = (s 102) := hW276.gz 102 rfl
        have tc103 : s275 103 = (s 103) := hW276.gz 103 rfl
        have tc3001 : s275 3001 = (s 3001) := hW276.gz 3001 rfl
        have tc3002 : s275 3002 = (s 3002) := hW276.gz 3002 rfl
        have tc3003 : s275 3003 = (s 3003) := hW276.gz 3003 rfl
        have tc3004 : s275 3004 = (s 3004) := hW276.gz 3004 rfl
        refine tt_k 2 (S' := (681, [some (.inr (.inl 1000004)), some (.inr (.inl 0)), some (.inr (.inl 30)), some (.inr (.inl 47)), some (.inl i), o5, o6], [.inr (.inl 30)], n273, D274, s275, p276, c277)) rfl ?_
        refine tt_cl (by omega) rfl (k_unpack (Zi := Zi) (D := D274) (s := s275) (p := p276) (c := c277) (by omega) hS275 hC277 ) ?_
        rintro _ _ ⟨s281, c282, r283, rfl, rfl, hS281, hC282, f284, g285, b286⟩
        have hW287 := wp_rf f284 (by decide) hW276
        show tt Zi 12 0 (684, [some (.inr (.inl 1000004)), some (.inr (.inl 0)), some (.inr (.inl 30)), some (.inr (.inl 47)), some (.inl i), o5, o6], [.inl r283], n273, D274, s281, p276, c282) _
        have te100 : s281 100 = (s275 100) := f284 100 (by decide)
        have te101 : s281 101 = (s275 101) := f284 101 (by decide)
        have te102 : s281 102 = (s275 102) := f284 102 (by decide)
        have te103 : s281 103 = (s275 103) := f284 103 (by decide)
        have te3001 : s281 3001 = (s275 3001) := f284 3001 (by decide)
        have te3002 : s281 3002 = (s275 3002) := f284 3002 (by decide)
        have te3003 : s281 3003 = (s275 3003) := f284 3003 (by decide)
        have te3004 : s281 3004 = (s275 3004) := f284 3004 (by decide)
        have ht2 : tie s281 := ⟨te100.trans (tc100.trans (ht.1.trans (tc3001.symm.trans te3001.symm))), te101.trans (tc101.trans (ht.2.1.trans (tc3002.symm.trans te3002.symm))), te102.trans (tc102.trans (ht.2.2.1.trans (tc3003.symm.trans te3003.symm))), te103.trans (tc103.trans (ht.2.2.2.trans (tc3004.symm.trans te3004.symm)))⟩
        have FKr := fk_rc FKc.1 g285 (by decide)
        have tS2 : tiS s281 p276 c282 := tiS_fk (tiS_fk ⟨E, hcE, hrE⟩ FKc (by decide) tc100 tc101 tc102) FKr (by decide) te100 te101 te102
        have q1 : tqC c282 := tqC_f hQ.1 FKc FKr (by decide)
        have q2 : tqW s281 := tqW_f (tqW_f hQ.2.1 FFc (by decide)) f284 (by decide)
        have q3 : tqP s281 p276 c282 := tqP_f hQ.2.2.1 FKc FKr (by decide) FFc (by decide) f284 (by decide)
        have q4 : tqT s281 := tqT_f (tqT_f hQ.2.2.2 FFc (by decide)) f284 (by decide)
        have tQ2 : tiQ s281 p276 c282 := ⟨q1, q2, q3, q4⟩
        clear tc100 tc101 tc102 tc103 tc3001 tc3002 tc3003 tc3004 te100 te101 te102 te103 te3001 te3002 te3003 te3004
        refine tt_k 4 (S' := (23, [some (.inr (.inl 1000004)), some (.inr (.inl 0)), some (.inr (.inl 30)), some (.inr (.inl 47)), some (.inl (i + 9)), o5, o6], [], n273, D274, s281, p276, c282)) rfl ?_
        exact ih (q + 1) (i + 9) (o5) (o6) (n273, D274, s281, p276, c282) ⟨hS281, hC282, (wp_rg hW287), FKr.1⟩ ht2 tS2 tQ2 (by omega) (by omega) (by omega) (by omega)
      by_cases h288 : (mi_and (xs (i).toNat) 15) = 12
      · have h289 := h288
        refine tt_tsw (x := (mi_and (xs (i).toNat) 15)) (off := 648) rfl (by omega) (by omega) (by rw [h288]; rfl) rfl ?_
        show tt Zi 12 0 (688, [some (.inr (.inl 1000004)), some (.inr (.inl 0)), some (.inr (.inl 30)), some (.inr (.inl 47)), some (.inl i), o5, o6], [], n, D, s, p, c) _
        refine tt_k 1 (S' := (689, [some (.inr (.inl 1000004)), some (.inr (.inl 0)), some (.inr (.inl 30)), some (.inr (.inl 47)), some (.inl i), o5, o6], [.inr (.inl 0)], n, D, s, p, c)) rfl ?_
        refine tt_cl (by omega) rfl (g_place (Zi := Zi) (q := q) (n := n) (D := D) (s := s) (p := p) (c := c) (by omega) hz (by omega) hD hS hC (wp_rg hW) ) ?_
        rintro _ ⟨n290, D291, s292, p293, c294⟩ ⟨r296, rfl, b297, hY295⟩
        have hS292 : bS s292 := hY295.1
        have hC294 : bC D291 c294 := hY295.2.1
        have hW293 : wp _ _ n290 D291 p293 s292 := hY295.2.2.1
        have FKc : fk p c n290 p293 c294 [] := hY295.2.2.2.1
        have FFc : fr s s292 [] := hY295.2.2.2.2
        show tt Zi 12 0 (692, [some (.inr (.inl 1000004)), some (.inr (.inl 0)), some (.inr (.inl 30)), some (.inr (.inl 47)), some (.inl i), o5, o6], [.inl r296], n290, D291, s292, p293, c294) _
        have tc100 : s292 100 = (s 100) := hW293.gz 100 rfl
        have tc101 : s292 101 = (s 101) := hW293.gz 101 rfl
        have tc102 : s292 102 = (s 102) := hW293.gz 102 rfl
        have tc103 : s292 103 = (s 103) := hW293.gz 103 rfl
        have tc3001 : s292 3001 = (s 3001) := hW293.gz 3001 rfl
        have tc3002 : s292 3002 = (s 3002) := hW293.gz 3002 rfl
        have tc3003 : s292 3003 = (s 3003) := hW293.gz 3003 rfl
        have tc3004 : s292 3004 = (s 3004) := hW293.gz 3004 rfl
        refine tt_k 2 (S' := (694, [some (.inr (.inl 1000004)), some (.inr (.inl 0)), some (.inr (.inl 30)), some (.inr (.inl 47)), some (.inl i), o5, o6], [.inr (.inl 30)], n290, D291, s292, p293, c294)) rfl ?_
        refine tt_cl (by omega) rfl (k_place (Zi := Zi) (D := D291) (s := s292) (p := p293) (c := c294) (by omega) hS292 hC294 ) ?_
        rintro _ _ ⟨s298, r299, rfl, rfl, hS298, f300, b301, k302, k303⟩
        have hW304 := wp_rf f300 (by decide) hW293
        show tt Zi 12 0 (697, [some (.inr (.inl 1000004)), some (.inr (.inl 0)), some (.inr (.inl 30)), some (.inr (.inl 47)), some (.inl i), o5, o6], [.inl r299], n290, D291, s298, p293, c294) _
        have te100 : s298 100 = (s292 100) := f300 100 (by decide)
        have te101 : s298 101 = (s292 101) := f300 101 (by decide)
        have te102 : s298 102 = (s292 102) := f300 102 (by decide)
        have te103 : s298 103 = (s292 103) := f300 103 (by decide)
        have te3001 : s298 3001 = (s292 3001) := f300 3001 (by decide)
        have te3002 : s298 3002 = (s292 3002) := f300 3002 (by decide)
        have te3003 : s298 3003 = (s292 3003) := f300 3003 (by decide)
        have te3004 : s298 3004 = (s292 3004) := f300 3004 (by decide)
        have ht2 : tie s298 := ⟨te100.trans (tc100.trans (ht.1.trans (tc3001.symm.trans te3001.symm))), te101.trans (tc101.trans (ht.2.1.trans (tc3002.symm.trans te3002.symm))), te102.trans (tc102.trans (ht.2.2.1.trans (tc3003.symm.trans te3003.symm))), te103.trans (tc103.trans (ht.2.2.2.trans (tc3004.symm.trans te3004.symm)))⟩
        have FKr := fk_rf (c := c294) (K := []) FKc.1
        have tS2 : tiS s298 p293 c294 := tiS_fk (tiS_fk ⟨E, hcE, hrE⟩ FKc (by decide) tc100 tc101 tc102) FKr (by decide) te100 te101 te102
        have q1 : tqC c294 := tqC_f hQ.1 FKc FKr (by decide)
        have q2 : tqW s298 := tqW_f (tqW_f hQ.2.1 FFc (by decide)) f300 (by decide)
        have q3 : tqP s298 p293 c294 := tqP_f hQ.2.2.1 FKc FKr (by decide) FFc (by decide) f300 (by decide)
        have q4 : tqT s298 := tqT_f (tqT_f hQ.2.2.2 FFc (by decide)) f300 (by decide)
        have tQ2 : tiQ s298 p293 c294 := ⟨q1, q2, q3, q4⟩
        clear tc100 tc101 tc102 tc103 tc3001 tc3002 tc3003 tc3004 te100 te101 te102 te103 te3001 te3002 te3003 te3004
        refine tt_k 4 (S' := (23, [some (.inr (.inl 1000004)), some (.inr (.inl 0)), some (.inr (.inl 30)), some (.inr (.inl 47)), some (.inl (i + 9)), o5, o6], [], n290, D291, s298, p293, c294)) rfl ?_
        exact ih (q + 1) (i + 9) (o5) (o6) (n290, D291, s298, p293, c294) ⟨hS298, hC294, (wp_rg hW304), FKr.1⟩ ht2 tS2 tQ2 (by omega) (by omega) (by omega) (by omega)
      by_cases h305 : (mi_and (xs (i).toNat) 15) = 13
      · have h306 := h305
        refine tt_tsw (x := (mi_and (xs (i).toNat) 15)) (off := 661) rfl (by omega) (by omega) (by rw [h305]; rfl) rfl ?_
        show tt Zi 12 0 (701, [some (.inr (.inl 1000004)), some (.inr (.inl 0)), some (.inr (.inl 30)), some (.inr (.inl 47)), some (.inl i), o5, o6], [], n, D, s, p, c) _
        refine tt_k 5 (S' := (707, [some (.inr (.inl 1000004)), some (.inr (.inl 0)), some (.inr (.inl 30)), some (.inr (.inl 47)), some (.inl i), o5, o6], [.inl (i + 1), .inr (.inl 1000004), .inr (.inl 0)], n, D, s, p, c)) rfl ?_
        refine tt_stat (j := 4) (i := (i + 1)) rfl hs (by omega) ?_
        show tt Zi 12 0 (708, [some (.inr (.inl 1000004)), some (.inr (.inl 0)), some (.inr (.inl 30)), some (.inr (.inl 47)), some (.inl i), o5, o6], [.inl ((xs ((i + 1)).toNat)), .inr (.inl 0)], n, D, s, p, c) _
        have b307 := hxs ((i + 1)).toNat
        refine tt_k 1 (S' := (709, [some (.inr (.inl 1000004)), some (.inr (.inl 0)), some (.inr (.inl 30)), some (.inr (.inl 47)), some (.inl i), o5, o6], [.inr (.inl 47), .inl ((xs ((i + 1)).toNat)), .inr (.inl 0)], n, D, s, p, c)) rfl ?_
        refine tt_cl (by omega) rfl (h_about (Zi := Zi) (q := q) (n := n) (D := D) (s := s) (p := p) (c := c) (by omega) hz (by omega) hD hS hC (wp_rg hW) ((xs ((i + 1)).toNat)) (by omega)) ?_
        rintro _ ⟨n308, D309, s310, p311, c312⟩ ⟨r314, rfl, b315, hY313⟩
        have hS310 : bS s310 := hY313.1
        have hC312 : bC D309 c312 := hY313.2.1
        have hW311 : wp _ _ n308 D309 p311 s310 := hY313.2.2.1
        have FKc : fk p c n308 p311 c312 [47] := hY313.2.2.2.1
        have FFc : fr s s310 [800, 801, 802, 803, 804, 805, 806, 807, 808, 809, 902, 1705, 1706, 2001, 2002, 2003, 2004, 2005, 2006, 2106, 2107, 2108, 2109, 2110, 2111, 2112, 2113, 2114, 2115, 2116, 2500, 2501, 2502, 2503, 2700, 2701, 2702, 2703] := hY313.2.2.2.2
        show tt Zi 12 0 (712, [some (.inr (.inl 1000004)), some (.inr (.inl 0)), some (.inr (.inl 30)), some (.inr (.inl 47)), some (.inl i), o5, o6], [.inl r314], n308, D309, s310, p311, c312) _
        have tc100 : s310 100 = (s 100) := hW311.gz 100 rfl
        have tc101 : s310 101 = (s 101) := hW311.gz 101 rfl
        have tc102 : s310 102 = (s 102) := hW311.gz 102 rfl
        have tc103 : s310 103 = (s 103) := hW311.gz 103 rfl
        have tc3001 : s310 3001 = (s 3001) := hW311.gz 3001 rfl
        have tc3002 : s310 3002 = (s 3002) := hW311.gz 3002 rfl
        have tc3003 : s310 3003 = (s 3003) := hW311.gz 3003 rfl
        have tc3004 : s310 3004 = (s 3004) := hW311.gz 3004 rfl
        refine tt_k 6 (S' := (720, [some (.inr (.inl 1000004)), some (.inr (.inl 0)), some (.inr (.inl 30)), some (.inr (.inl 47)), some (.inl i), some (.inl r314), o6], [.inl (i + 1), .inr (.inl 1000004), .inr (.inl 30)], n308, D309, s310, p311, c312)) rfl ?_
        refine tt_stat (j := 4) (i := (i + 1)) rfl hs (by omega) ?_
        show tt Zi 12 0 (721, [some (.inr (.inl 1000004)), some (.inr (.inl 0)), some (.inr (.inl 30)), some (.inr (.inl 47)), some (.inl i), some (.inl r314), o6], [.inl ((xs ((i + 1)).toNat)), .inr (.inl 30)], n308, D309, s310, p311, c312) _
        refine tt_cl (by omega) rfl (k_about (Zi := Zi) (D := D309) (s := s310) (p := p311) (c := c312) (by omega) hS310 hC312 ((xs ((i + 1)).toNat)) (by omega)) ?_
        rintro _ _ ⟨s316, r317, rfl, rfl, hS316, f318, b319⟩
        have hW320 := wp_rf f318 (by decide) hW311
        show tt Zi 12 0 (724, [some (.inr (.inl 1000004)), some (.inr (.inl 0)), some (.inr (.inl 30)), some (.inr (.inl 47)), some (.inl i), some (.inl r314), o6], [.inl r317], n308, D309, s316, p311, c312) _
        have te100 : s316 100 = (s310 100) := f318 100 (by decide)
        have te101 : s316 101 = (s310 101) := f318 101 (by decide)
        have te102 : s316 102 = (s310 102) := f318 102 (by decide)
        have te103 : s316 103 = (s310 103) := f318 103 (by decide)
        have te3001 : s316 3001 = (s310 3001) := f318 3001 (by decide)
        have te3002 : s316 3002 = (s310 3002) := f318 3002 (by decide)
        have te3003 : s316 3003 = (s310 3003) := f318 3003 (by decide)
        have te3004 : s316 3004 = (s310 3004) := f318 3004 (by decide)
        have ht2 : tie s316 := ⟨te100.trans (tc100.trans (ht.1.trans (tc3001.symm.trans te3001.symm))), te101.trans (tc101.trans (ht.2.1.trans (tc3002.symm.trans te3002.symm))), te102.trans (tc102.trans (ht.2.2.1.trans (tc3003.symm.trans te3003.symm))), te103.trans (tc103.trans (ht.2.2.2.trans (tc3004.symm.trans te3004.symm)))⟩
        have FKr := fk_rf (c := c312) (K := []) FKc.1
        have tS2 : tiS s316 p311 c312 := tiS_fk (tiS_fk ⟨E, hcE, hrE⟩ FKc (by decide) tc100 tc101 tc102) FKr (by decide) te100 te101 te102
        have q1 : tqC c312 := tqC_f hQ.1 FKc FKr (by decide)
        have q2 : tqW s316 := tqW_f (tqW_f hQ.2.1 FFc (by decide)) f318 (by decide)
        have q3 : tqP s316 p311 c312 := tqP_f hQ.2.2.1 FKc FKr (by decide) FFc (by decide) f318 (by decide)
        have q4 : tqT s316 := tqT_f (tqT_f hQ.2.2.2 FFc (by decide)) f318 (by decide)
        have tQ2 : tiQ s316 p311 c312 := ⟨q1, q2, q3, q4⟩
        clear tc100 tc101 tc102 tc103 tc3001 tc3002 tc3003 tc3004 te100 te101 te102 te103 te3001 te3002 te3003 te3004
        refine tt_k 4 (S' := (23, [some (.inr (.inl 1000004)), some (.inr (.inl 0)), some (.inr (.inl 30)), some (.inr (.inl 47)), some (.inl (i + 9)), some (.inl r314), some (.inl r317)], [], n308, D309, s316, p311, c312)) rfl ?_
        exact ih (q + 1) (i + 9) (some (.inl r314)) (some (.inl r317)) (n308, D309, s316, p311, c312) ⟨hS316, hC312, (wp_rg hW320), FKr.1⟩ ht2 tS2 tQ2 (by omega) (by omega) (by omega) (by omega)
      by_cases h321 : (mi_and (xs (i).toNat) 15) = 14
      · have h322 := h321
        refine tt_tsw (x := (mi_and (xs (i).toNat) 15)) (off := 689) rfl (by omega) (by omega) (by rw [h321]; rfl) rfl ?_
        show tt Zi 12 0 (729, [some (.inr (.inl 1000004)), some (.inr (.inl 0)), some (.inr (.inl 30)), some (.inr (.inl 47)), some (.inl i), o5, o6], [], n, D, s, p, c) _
        refine tt_k 5 (S' := (735, [some (.inr (.inl 1000004)), some (.inr (.inl 0)), some (.inr (.inl 30)), some (.inr (.inl 47)), some (.inl i), o5, o6], [.inl (i + 1), .inr (.inl 1000004), .inr (.inl 0)], n, D, s, p, c)) rfl ?_
        refine tt_stat (j := 4) (i := (i + 1)) rfl hs (by omega) ?_
        show tt Zi 12 0 (736, [some (.inr (.inl 1000004)), some (.inr (.inl 0)), some (.inr (.inl 30)), some (.inr (.inl 47)), some (.inl i), o5, o6], [.inl ((xs ((i + 1)).toNat)), .inr (.inl 0)], n, D, s, p, c) _
        have b323 := hxs ((i + 1)).toNat
        refine tt_k 4 (S' := (741, [some (.inr (.inl 1000004)), some (.inr (.inl 0)), some (.inr (.inl 30)), some (.inr (.inl 47)), some (.inl i), o5, o6], [.inl (i + 2), .inr (.inl 1000004), .inl ((xs ((i + 1)).toNat)), .inr (.inl 0)], n, D, s, p, c)) rfl ?_
        refine tt_stat (j := 4) (i := (i + 2)) rfl hs (by omega) ?_
        show tt Zi 12 0 (742, [some (.inr (.inl 1000004)), some (.inr (.inl 0)), some (.inr (.inl 30)), some (.inr (.inl 47)), some (.inl i), o5, o6], [.inl ((xs ((i + 2)).toNat)), .inl ((xs ((i + 1)).toNat)), .inr (.inl 0)], n, D, s, p, c) _
        have b324 := hxs ((i + 2)).toNat
        refine tt_k 4 (S' := (747, [some (.inr (.inl 1000004)), some (.inr (.inl 0)), some (.inr (.inl 30)), some (.inr (.inl 47)), some (.inl i), o5, o6], [.inl (i + 3), .inr (.inl 1000004), .inl ((xs ((i + 2)).toNat)), .inl ((xs ((i + 1)).toNat)), .inr (.inl 0)], n, D, s, p, c)) rfl ?_
        refine tt_stat (j := 4) (i := (i + 3)) rfl hs (by omega) ?_
        show tt Zi 12 0 (748, [some (.inr (.inl 1000004)), some (.inr (.inl 0)), some (.inr (.inl 30)), some (.inr (.inl 47)), some (.inl i), o5, o6], [.inl ((xs ((i + 3)).toNat)), .inl ((xs ((i + 2)).toNat)), .inl ((xs ((i + 1)).toNat)), .inr (.inl 0)], n, D, s, p, c) _
        have b325 := hxs ((i + 3)).toNat
        refine tt_k 1 (S' := (749, [some (.inr (.inl 1000004)), some (.inr (.inl 0)), some (.inr (.inl 30)), some (.inr (.inl 47)), some (.inl i), o5, o6], [.inr (.inl 47), .inl ((xs ((i + 3)).toNat)), .inl ((xs ((i + 2)).toNat)), .inl ((xs ((i + 1)).toNat)), .inr (.inl 0)], n, D, s, p, c)) rfl ?_
        refine tt_cl (by omega) rfl (h_sample (Zi := Zi) (q := q) (n := n) (D := D) (s := s) (p := p) (c := c) (by omega) hz (by omega) hD hS hC (wp_rg hW) ((xs ((i + 1)).toNat)) ((xs ((i + 2)).toNat)) ((xs ((i + 3)).toNat)) (by omega) (by omega) (by omega)) ?_
        rintro _ ⟨n326, D327, s328, p329, c330⟩ ⟨r332, rfl, b333, hY331⟩
        have hS328 : bS s328 := hY331.1
        have hC330 : bC D327 c330 := hY331.2.1
        have hW329 : wp _ _ n326 D327 p329 s328 := hY331.2.2.1
        have FKc : fk p c n326 p329 c330 [47] := hY331.2.2.2.1
        have FFc : fr s s328 [800, 801, 802, 803, 804, 805, 806, 807, 808, 809, 902, 1705, 1706, 2001, 2002, 2003, 2004, 2005, 2006, 2106, 2107, 2108, 2109, 2110, 2111, 2112, 2113, 2114, 2115, 2116, 2500, 2501, 2502, 2503, 2700, 2701, 2702, 2703] := hY331.2.2.2.2
        show tt Zi 12 0 (752, [some (.inr (.inl 1000004)), some (.inr (.inl 0)), some (.inr (.inl 30)), some (.inr (.inl 47)), some (.inl i), o5, o6], [.inl r332], n326, D327, s328, p329, c330) _
        have tc100 : s328 100 = (s 100) := hW329.gz 100 rfl
        have tc101 : s328 101 = (s 101) := hW329.gz 101 rfl
        have tc102 : s328 102 = (s 102) := hW329.gz 102 rfl
        have tc103 : s328 103 = (s 103) := hW329.gz 103 rfl
        have tc3001 : s328 3001 = (s 3001) := hW329.gz 3001 rfl
        have tc3002 : s328 3002 = (s 3002) := hW329.gz 3002 rfl
        have tc3003 : s328 3003 = (s 3003) := hW329.gz 3003 rfl
        have tc3004 : s328 3004 = (s 3004) := hW329.gz 3004 rfl
        refine tt_k 6 (S' := (760, [some (.inr (.inl 1000004)), some (.inr (.inl 0)), some (.inr (.inl 30)), some (.inr (.inl 47)), some (.inl i), some (.inl r332), o6], [.inl (i + 1), .inr (.inl 1000004), .inr (.inl 30)], n326, D327, s328, p329, c330)) rfl ?_
        refine tt_stat (j := 4) (i := (i + 1)) rfl hs (by omega) ?_
        show tt Zi 12 0 (761, [some (.inr (.inl 1000004)), some (.inr (.inl 0)), some (.inr (.inl 30)), some (.inr (.inl 47)), some (.inl i), some (.inl r332), o6], [.inl ((xs ((i + 1)).toNat)), .inr (.inl 30)], n326, D327, s328, p329, c330) _
        refine tt_k 4 (S' := (766, [some (.inr (.inl 1000004)), some (.inr (.inl 0)), some (.inr (.inl 30)), some (.inr (.inl 47)), some (.inl i), some (.inl r332), o6], [.inl (i + 2), .inr (.inl 1000004), .inl ((xs ((i + 1)).toNat)), .inr (.inl 30)], n326, D327, s328, p329, c330)) rfl ?_
        refine tt_stat (j := 4) (i := (i + 2)) rfl hs (by omega) ?_
        show tt Zi 12 0 (767, [some (.inr (.inl 1000004)), some (.inr (.inl 0)), some (.inr (.inl 30)), some (.inr (.inl 47)), some (.inl i), some (.inl r332), o6], [.inl ((xs ((i + 2)).toNat)), .inl ((xs ((i + 1)).toNat)), .inr (.inl 30)], n326, D327, s328, p329, c330) _
        refine tt_k 4 (S' := (772, [some (.inr (.inl 1000004)), some (.inr (.inl 0)), some (.inr (.inl 30)), some (.inr (.inl 47)), some (.inl i), some (.inl r332), o6], [.inl (i + 3), .inr (.inl 1000004), .inl ((xs ((i + 2)).toNat)), .inl ((xs ((i + 1)).toNat)), .inr (.inl 30)], n326, D327, s328, p329, c330)) rfl ?_
        refine tt_stat (j := 4) (i := (i + 3)) rfl hs (by omega) ?_
        show tt Zi 12 0 (773, [some (.inr (.inl 1000004)), some (.inr (.inl 0)), some (.inr (.inl 30)), some (.inr (.inl 47)), some (.inl i), some (.inl r332), o6], [.inl ((xs ((i + 3)).toNat)), .inl ((xs ((i + 2)).toNat)), .inl ((xs ((i + 1)).toNat)), .inr (.inl 30)], n326, D327, s328, p329, c330) _
        refine tt_cl (by omega) rfl (k_sample (Zi := Zi) (D := D327) (s := s328) (p := p329) (c := c330) (by omega) hS328 hC330 ((xs ((i + 1)).toNat)) ((xs ((i + 2)).toNat)) ((xs ((i + 3)).toNat)) (by omega) (by omega) (by omega)) ?_
        rintro _ _ ⟨s334, r335, rfl, rfl, hS334, f336, b337⟩
        have hW338 := wp_rf f336 (by decide) hW329
        show tt Zi 12 0 (776, [some (.inr (.inl 1000004)), some (.inr (.inl 0)), some (.inr (.inl 30)), some (.inr (.inl 47)), some (.inl i), some (.inl r332), o6], [.inl r335], n326, D327, s334, p329, c330) _
        have te100 : s334 100 = (s328 100) := f336 100 (by decide)
        have te101 : s334 101 = (s328 101) := f336 101 (by decide)
        have te102 : s334 102 = (s328 102) := f336 102 (by decide)
        have te103 : s334 103 = (s328 103) := f336 103 (by decide)
        have te3001 : s334 3001 = (s328 3001) := f336 3001 (by decide)
        have te3002 : s334 3002 = (s328 3002) := f336 3002 (by decide)
        have te3003 : s334 3003 = (s328 3003) := f336 3003 (by decide)
        have te3004 : s334 3004 = (s328 3004) := f336 3004 (by decide)
        have ht2 : tie s334 := ⟨te100.trans (tc100.trans (ht.1.trans (tc3001.symm.trans te3001.symm))), te101.trans (tc101.trans (ht.2.1.trans (tc3002.symm.trans te3002.symm))), te102.trans (tc102.trans (ht.2.2.1.trans (tc3003.symm.trans te3003.symm))), te103.trans (tc103.trans (ht.2.2.2.trans (tc3004.symm.trans te3004.symm)))⟩
        have FKr := fk_rf (c := c330) (K := []) FKc.1
        have tS2 : tiS s334 p329 c330 := tiS_fk (tiS_fk ⟨E, hcE, hrE⟩ FKc (by decide) tc100 tc101 tc102) FKr (by decide) te100 te101 te102
        have q1 : tqC c330 := tqC_f hQ.1 FKc FKr (by decide)
        have q2 : tqW s334 := tqW_f (tqW_f hQ.2.1 FFc (by decide)) f336 (by decide)
        have q3 : tqP s334 p329 c330 := tqP_f hQ.2.2.1 FKc FKr (by decide) FFc (by decide) f336 (by decide)
        have q4 : tqT s334 := tqT_f (tqT_f hQ.2.2.2 FFc (by decide)) f336 (by decide)
        have tQ2 : tiQ s334 p329 c330 := ⟨q1, q2, q3, q4⟩
        clear tc100 tc101 tc102 tc103 tc3001 tc3002 tc3003 tc3004 te100 te101 te102 te103 te3001 te3002 te3003 te3004
        refine tt_k 4 (S' := (23, [some (.inr (.inl 1000004)), some (.inr (.inl 0)), some (.inr (.inl 30)), some (.inr (.inl 47)), some (.inl (i + 9)), some (.inl r332), some (.inl r335)], [], n326, D327, s334, p329, c330)) rfl ?_
        exact ih (q + 1) (i + 9) (some (.inl r332)) (some (.inl r335)) (n326, D327, s334, p329, c330) ⟨hS334, hC330, (wp_rg hW338), FKr.1⟩ ht2 tS2 tQ2 (by omega) (by omega) (by omega) (by omega)
      by_cases h339 : (mi_and (xs (i).toNat) 15) = 15
      · have h340 := h339
        refine tt_tsw (x := (mi_and (xs (i).toNat) 15)) (off := 741) rfl (by omega) (by omega) (by rw [h339]; rfl) rfl ?_
        show tt Zi 12 0 (781, [some (.inr (.inl 1000004)), some (.inr (.inl 0)), some (.inr (.inl 30)), some (.inr (.inl 47)), some (.inl i), o5, o6], [], n, D, s, p, c) _
        refine tt_k 5 (S' := (787, [some (.inr (.inl 1000004)), some (.inr (.inl 0)), some (.inr (.inl 30)), some (.inr (.inl 47)), some (.inl i), o5, o6], [.inl (i + 1), .inr (.inl 1000004), .inr (.inl 0)], n, D, s, p, c)) rfl ?_
        refine tt_stat (j := 4) (i := (i + 1)) rfl hs (by omega) ?_
        show tt Zi 12 0 (788, [some (.inr (.inl 1000004)), some (.inr (.inl 0)), some (.inr (.inl 30)), some (.inr (.inl 47)), some (.inl i), o5, o6], [.inl ((xs ((i + 1)).toNat)), .inr (.inl 0)], n, D, s, p, c) _
        have b341 := hxs ((i + 1)).toNat
        refine tt_k 4 (S' := (793, [some (.inr (.inl 1000004)), some (.inr (.inl 0)), some (.inr (.inl 30)), some (.inr (.inl 47)), some (.inl i), o5, o6], [.inl (i + 2), .inr (.inl 1000004), .inl ((xs ((i + 1)).toNat)), .inr (.inl 0)], n, D, s, p, c)) rfl ?_
        refine tt_stat (j := 4) (i := (i + 2)) rfl hs (by omega) ?_
        show tt Zi 12 0 (794, [some (.inr (.inl 1000004)), some (.inr (.inl 0)), some (.inr (.inl 30)), some (.inr (.inl 47)), some (.inl i), o5, o6], [.inl ((xs ((i + 2)).toNat)), .inl ((xs ((i + 1)).toNat)), .inr (.inl 0)], n, D, s, p, c) _
        have b342 := hxs ((i + 2)).toNat
        refine tt_k 1 (S' := (795, [some (.inr (.inl 1000004)), some (.inr (.inl 0)), some (.inr (.inl 30)), some (.inr (.inl 47)), some (.inl i), o5, o6], [.inr (.inl 47), .inl ((xs ((i + 2)).toNat)), .inl ((xs ((i + 1)).toNat)), .inr (.inl 0)], n, D, s, p, c)) rfl ?_
        refine tt_cl (by omega) rfl (h_learned (Zi := Zi) (q := q) (n := n) (D := D) (s := s) (p := p) (c := c) (by omega) hz (by omega) hD hS hC (wp_rg hW) ((xs ((i + 1)).toNat)) ((xs ((i + 2)).toNat)) (by omega) (by omega)) ?_
        rintro _ ⟨n343, D344, s345, p346, c347⟩ ⟨r349, rfl, b350, hY348⟩
        have hS345 : bS s345 := hY348.1
        have hC347 : bC D344 c347 := hY348.2.1
        have hW346 : wp _ _ n343 D344 p346 s345 := hY348.2.2.1
        have FKc : fk p c n343 p346 c347 [47] := hY348.2.2.2.1
        have FFc : fr s s345 [800, 801, 802, 803, 804, 805, 806, 807, 808, 809, 902, 1705, 1706, 2001, 2002, 2003, 2004, 2005, 2006, 2106, 2107, 2108, 2109, 2110, 2111, 2112, 2113, 2114, 2115, 2116, 2500, 2501, 2502, 2503, 2700, 2701, 2702, 2703] := hY348.2.2.2.2
        show tt Zi 12 0 (798, [some (.inr (.inl 1000004)), some (.inr (.inl 0)), some (.inr (.inl 30)), some (.inr (.inl 47)), some (.inl i), o5, o6], [.inl r349], n343, D344, s345, p346, c347) _
        have tc100 : s345 100 = (s 100) := hW346.gz 100 rfl
        have tc101 : s345 101 = (s 101) := hW346.gz 101 rfl
        have tc102 : s345 102 = (s 102) := hW346.gz 102 rfl
        have tc103 : s345 103 = (s 103) := hW346.gz 103 rfl
        have tc3001 : s345 3001 = (s 3001) := hW346.gz 3001 rfl
        have tc3002 : s345 3002 = (s 3002) := hW346.gz 3002 rfl
        have tc3003 : s345 3003 = (s 3003) := hW346.gz 3003 rfl
        have tc3004 : s345 3004 = (s 3004) := hW346.gz 3004 rfl
        refine tt_k 6 (S' := (806, [some (.inr (.inl 1000004)), some (.inr (.inl 0)), some (.inr (.inl 30)), some (.inr (.inl 47)), some (.inl i), some (.inl r349), o6], [.inl (i + 1), .inr (.inl 1000004), .inr (.inl 30)], n343, D344, s345, p346, c347)) rfl ?_
        refine tt_stat (j := 4) (i := (i + 1)) rfl hs (by omega) ?_
        show tt Zi 12 0 (807, [some (.inr (.inl 1000004)), some (.inr (.inl 0)), some (.inr (.inl 30)), some (.inr (.inl 47)), some (.inl i), some (.inl r349), o6], [.inl ((xs ((i + 1)).toNat)), .inr (.inl 30)], n343, D344, s345, p346, c347) _
        refine tt_k 4 (S' := (812, [some (.inr (.inl 1000004)), some (.inr (.inl 0)), some (.inr (.inl 30)), some (.inr (.inl 47)), some (.inl i), some (.inl r349), o6], [.inl (i + 2), .inr (.inl 1000004), .inl ((xs ((i + 1)).toNat)), .inr (.inl 30)], n343, D344, s345, p346, c347)) rfl ?_
        refine tt_stat (j := 4) (i := (i + 2)) rfl hs (by omega) ?_
        show tt Zi 12 0 (813, [some (.inr (.inl 1000004)), some (.inr (.inl 0)), some (.inr (.inl 30)), some (.inr (.inl 47)), some (.inl i), some (.inl r349), o6], [.inl ((xs ((i + 2)).toNat)), .inl ((xs ((i + 1)).toNat)), .inr (.inl 30)], n343, D344, s345, p346, c347) _
        refine tt_cl (by omega) rfl (k_learned (Zi := Zi) (D := D344) (s := s345) (p := p346) (c := c347) (by omega) hS345 hC347 ((xs ((i + 1)).toNat)) ((xs ((i + 2)).toNat)) (by omega) (by omega)) ?_
        rintro _ _ ⟨s351, r352, rfl, rfl, hS351, f353, b354⟩
        have hW355 := wp_rf f353 (by decide) hW346
        show tt Zi 12 0 (816, [some (.inr (.inl 1000004)), some (.inr (.inl 0)), some (.inr (.inl 30)), some (.inr (.inl 47)), some (.inl i), some (.inl r349), o6], [.inl r352], n343, D344, s351, p346, c347) _
        have te100 : s351 100 = (s345 100) := f353 100 (by decide)
        have te101 : s351 101 = (s345 101) := f353 101 (by decide)
        have te102 : s351 102 = (s345 102) := f353 102 (by decide)
        have te103 : s351 103 = (s345 103) := f353 103 (by decide)
        have te3001 : s351 3001 = (s345 3001) := f353 3001 (by decide)
        have te3002 : s351 3002 = (s345 3002) := f353 3002 (by decide)
        have te3003 : s351 3003 = (s345 3003) := f353 3003 (by decide)
        have te3004 : s351 3004 = (s345 3004) := f353 3004 (by decide)
        have ht2 : tie s351 := ⟨te100.trans (tc100.trans (ht.1.trans (tc3001.symm.trans te3001.symm))), te101.trans (tc101.trans (ht.2.1.trans (tc3002.symm.trans te3002.symm))), te102.trans (tc102.trans (ht.2.2.1.trans (tc3003.symm.trans te3003.symm))), te103.trans (tc103.trans (ht.2.2.2.trans (tc3004.symm.trans te3004.symm)))⟩
        have FKr := fk_rf (c := c347) (K := []) FKc.1
        have tS2 : tiS s351 p346 c347 := tiS_fk (tiS_fk ⟨E, hcE, hrE⟩ FKc (by decide) tc100 tc101 tc102) FKr (by decide) te100 te101 te102
        have q1 : tqC c347 := tqC_f hQ.1 FKc FKr (by decide)
        have q2 : tqW s351 := tqW_f (tqW_f hQ.2.1 FFc (by decide)) f353 (by decide)
        have q3 : tqP s351 p346 c347 := tqP_f hQ.2.2.1 FKc FKr (by decide) FFc (by decide) f353 (by decide)
        have q4 : tqT s351 := tqT_f (tqT_f hQ.2.2.2 FFc (by decide)) f353 (by decide)
        have tQ2 : tiQ s351 p346 c347 := ⟨q1, q2, q3, q4⟩
        clear tc100 tc101 tc102 tc103 tc3001 tc3002 tc3003 tc3004 te100 te101 te102 te103 te3001 te3002 te3003 te3004
        refine tt_k 4 (S' := (23, [some (.inr (.inl 1000004)), some (.inr (.inl 0)), some (.inr (.inl 30)), some (.inr (.inl 47)), some (.inl (i + 9)), some (.inl r349), some (.inl r352)], [], n343, D344, s351, p346, c347)) rfl ?_
        exact ih (q + 1) (i + 9) (some (.inl r349)) (some (.inl r352)) (n343, D344, s351, p346, c347) ⟨hS351, hC347, (wp_rg hW355), FKr.1⟩ ht2 tS2 tQ2 (by omega) (by omega) (by omega) (by omega)
      refine tt_tsd (x := (mi_and (xs (i).toNat) 15)) rfl (by omega) (by omega) rfl ?_
      show tt Zi 12 0 (821, [some (.inr (.inl 1000004)), some (.inr (.inl 0)), some (.inr (.inl 30)), some (.inr (.inl 47)), some (.inl i), o5, o6], [], n, D, s, p, c) _
      refine tt_k 2 (S' := (23, [some (.inr (.inl 1000004)), some (.inr (.inl 0)), some (.inr (.inl 30)), some (.inr (.inl 47)), some (.inl (i + 9)), o5, o6], [], n, D, s, p, c)) rfl ?_
      exact ih q (i + 9) (o5) (o6) (n, D, s, p, c) ⟨hS, hC, (wp_rg hW), hD⟩ ht ⟨E, hcE, hrE⟩ hQ (by omega) (by omega) (by omega) (by omega)
