/-! the law's loop -/
def cV (q : Nat) (H : mi_H) : Prop := bS H.2.2.1 ∧ bC H.2.1 H.2.2.2.2 ∧ wp q H.2.2.1 H.1 H.2.1 H.2.2.2.1 H.2.2.1 ∧ wd H.1 H.2.2.2.1
def tie (s : Nat → Int) : Prop := s 100 = s 3001 ∧ s 101 = s 3002 ∧ s 102 = s 3003 ∧ s 103 = s 3004
def lawQ : mi_Rs → mi_H → Prop := fun R H => R = .inl (some (.inl 1)) ∧ ∃ g, cW 520 g H
set_option maxRecDepth 100000 in
set_option maxHeartbeats 8000000 in
theorem law_L {Zi : Nat → Option (Nat × (Nat → Int))} {L : Nat} {xs : Nat → Int} (hz : zk Zi) (hs : Zi 4 = some (L, xs)) (hxs : ∀ i, -2147483648 ≤ xs i ∧ xs i ≤ 2147483647) (hL : L ≤ 4608) : ∀ (m q : Nat) (i : Int) (o5 o6 : Option mi_V) (H : mi_H), cV q H → tie H.2.2.1 → tiS H.2.2.1 H.2.2.2.1 H.2.2.2.2 → tiQ H.2.2.1 H.2.2.2.1 H.2.2.2.2 → 0 ≤ i → 9 * (q : Int) ≤ i → i ≤ 4617 → (4700 - i).toNat < m → tt Zi 12 0 (23, [some (.inr (.inl 1000004)), some (.inr (.inl 0)), some (.inr (.inl 30)), some (.inr (.inl 47)), some (.inl i), o5, o6], [], H) lawQ := by
  intro m
  induction m with
  | zero => intro q i o5 o6 H _ _ _ _ _ _ _ h; exact absurd h (by omega)
  | succ m ih =>
    intro q i o5 o6 H hH ht tS hQ hi0 hq hi1 hm
    obtain ⟨n, D, s, p, c⟩ := H
    have hS : bS s := hH.1
    have hC : bC D c := hH.2.1
    have hW : wp q s n D p s := hH.2.2.1
    have hD : wd n p := hH.2.2.2
    have tS : tiS s p c := tS
    have hQ : tiQ s p c := hQ
    obtain ⟨E, hcE, hrE⟩ := tS
    have ht : tie s := ht
    unfold tie at ht
    have hd : 12 ≤ 12 := Nat.le_refl 12
    refine tt_k 2 (S' := (26, [some (.inr (.inl 1000004)), some (.inr (.inl 0)), some (.inr (.inl 30)), some (.inr (.inl 47)), some (.inl i), o5, o6], [.inr (.inl 1000004), .inl i], n, D, s, p, c)) rfl ?_
    refine tt_lno (j := 4) rfl hs ?_
    show tt Zi 12 0 (27, [some (.inr (.inl 1000004)), some (.inr (.inl 0)), some (.inr (.inl 30)), some (.inr (.inl 47)), some (.inl i), o5, o6], [.inl (L : Int), .inl i], n, D, s, p, c) _
    refine tt_k 2 (S' := (30, [some (.inr (.inl 1000004)), some (.inr (.inl 0)), some (.inr (.inl 30)), some (.inr (.inl 47)), some (.inl i), o5, o6], [.inl ((L : Int) - 9), .inl i], n, D, s, p, c)) rfl ?_
    refine tb_gt (x := i) (y := ((L : Int) - 9)) rfl rfl (by omega) (fun h1 => ?_) (fun h1 => ?_)
    · show tt Zi 12 0 (799, [some (.inr (.inl 1000004)), some (.inr (.inl 0)), some (.inr (.inl 30)), some (.inr (.inl 47)), some (.inl i), o5, o6], [], n, D, s, p, c) _
      refine tt_k 1 (S' := (800, [some (.inr (.inl 1000004)), some (.inr (.inl 0)), some (.inr (.inl 30)), some (.inr (.inl 47)), some (.inl i), o5, o6], [.inl 1], n, D, s, p, c)) rfl ?_
      exact tt_rtb rfl rfl (by omega) ⟨rfl, _, cW_mono (q := q) ⟨hS, hC, hW⟩ (by omega)⟩
    · show tt Zi 12 0 (33, [some (.inr (.inl 1000004)), some (.inr (.inl 0)), some (.inr (.inl 30)), some (.inr (.inl 47)), some (.inl i), o5, o6], [], n, D, s, p, c) _
      refine tt_k 2 (S' := (36, [some (.inr (.inl 1000004)), some (.inr (.inl 0)), some (.inr (.inl 30)), some (.inr (.inl 47)), some (.inl i), o5, o6], [.inl i, .inr (.inl 1000004)], n, D, s, p, c)) rfl ?_
      refine tt_stat (j := 4) (i := i) rfl hs (by omega) ?_
      show tt Zi 12 0 (37, [some (.inr (.inl 1000004)), some (.inr (.inl 0)), some (.inr (.inl 30)), some (.inr (.inl 47)), some (.inl i), o5, o6], [.inl (xs (i).toNat)], n, D, s, p, c) _
      have b2 := hxs (i).toNat
      refine tt_k 2 (S' := (40, [some (.inr (.inl 1000004)), some (.inr (.inl 0)), some (.inr (.inl 30)), some (.inr (.inl 47)), some (.inl i), o5, o6], [.inl ((mi_and (xs (i).toNat) 15))], n, D, s, p, c)) rfl ?_
      have e3 := mi_and15 (xs (i).toNat)
      by_cases h4 : (mi_and (xs (i).toNat) 15) = 0
      · have h5 := h4
        refine tt_tsw (x := (mi_and (xs (i).toNat) 15)) (off := 80) rfl (by omega) (by omega) (by rw [h4]; rfl) rfl ?_
        show tt Zi 12 0 (120, [some (.inr (.inl 1000004)), some (.inr (.inl 0)), some (.inr (.inl 30)), some (.inr (.inl 47)), some (.inl i), o5, o6], [], n, D, s, p, c) _
        refine tt_k 5 (S' := (126, [some (.inr (.inl 1000004)), some (.inr (.inl 0)), some (.inr (.inl 30)), some (.inr (.inl 47)), some (.inl i), o5, o6], [.inl (i + 1), .inr (.inl 1000004), .inr (.inl 0)], n, D, s, p, c)) rfl ?_
        refine tt_stat (j := 4) (i := (i + 1)) rfl hs (by omega) ?_
        show tt Zi 12 0 (127, [some (.inr (.inl 1000004)), some (.inr (.inl 0)), some (.inr (.inl 30)), some (.inr (.inl 47)), some (.inl i), o5, o6], [.inl ((xs ((i + 1)).toNat)), .inr (.inl 0)], n, D, s, p, c) _
        have b6 := hxs ((i + 1)).toNat
        refine tt_k 4 (S' := (132, [some (.inr (.inl 1000004)), some (.inr (.inl 0)), some (.inr (.inl 30)), some (.inr (.inl 47)), some (.inl i), o5, o6], [.inl (i + 2), .inr (.inl 1000004), .inl ((xs ((i + 1)).toNat)), .inr (.inl 0)], n, D, s, p, c)) rfl ?_
        refine tt_stat (j := 4) (i := (i + 2)) rfl hs (by omega) ?_
        show tt Zi 12 0 (133, [some (.inr (.inl 1000004)), some (.inr (.inl 0)), some (.inr (.inl 30)), some (.inr (.inl 47)), some (.inl i), o5, o6], [.inl ((xs ((i + 2)).toNat)), .inl ((xs ((i + 1)).toNat)), .inr (.inl 0)], n, D, s, p, c) _
        have b7 := hxs ((i + 2)).toNat
        refine tt_k 4 (S' := (138, [some (.inr (.inl 1000004)), some (.inr (.inl 0)), some (.inr (.inl 30)), some (.inr (.inl 47)), some (.inl i), o5, o6], [.inl (i + 3), .inr (.inl 1000004), .inl ((xs ((i + 2)).toNat)), .inl ((xs ((i + 1)).toNat)), .inr (.inl 0)], n, D, s, p, c)) rfl ?_
        refine tt_stat (j := 4) (i := (i + 3)) rfl hs (by omega) ?_
        show tt Zi 12 0 (139, [some (.inr (.inl 1000004)), some (.inr (.inl 0)), some (.inr (.inl 30)), some (.inr (.inl 47)), some (.inl i), o5, o6], [.inl ((xs ((i + 3)).toNat)), .inl ((xs ((i + 2)).toNat)), .inl ((xs ((i + 1)).toNat)), .inr (.inl 0)], n, D, s, p, c) _
        have b8 := hxs ((i + 3)).toNat
        refine tt_k 4 (S' := (144, [some (.inr (.inl 1000004)), some (.inr (.inl 0)), some (.inr (.inl 30)), some (.inr (.inl 47)), some (.inl i), o5, o6], [.inl (i + 4), .inr (.inl 1000004), .inl ((xs ((i + 3)).toNat)), .inl ((xs ((i + 2)).toNat)), .inl ((xs ((i + 1)).toNat)), .inr (.inl 0)], n, D, s, p, c)) rfl ?_
        refine tt_stat (j := 4) (i := (i + 4)) rfl hs (by omega) ?_
        show tt Zi 12 0 (145, [some (.inr (.inl 1000004)), some (.inr (.inl 0)), some (.inr (.inl 30)), some (.inr (.inl 47)), some (.inl i), o5, o6], [.inl ((xs ((i + 4)).toNat)), .inl ((xs ((i + 3)).toNat)), .inl ((xs ((i + 2)).toNat)), .inl ((xs ((i + 1)).toNat)), .inr (.inl 0)], n, D, s, p, c) _
        have b9 := hxs ((i + 4)).toNat
        refine tt_cl (by omega) rfl (h_canvas (Zi := Zi) (q := q) (n := n) (D := D) (s := s) (p := p) (c := c) (by omega) hz (by omega) hD hS hC (wp_rg hW) ((xs ((i + 1)).toNat)) ((xs ((i + 2)).toNat)) ((xs ((i + 3)).toNat)) ((xs ((i + 4)).toNat)) (by omega) (by omega) (by omega) (by omega)) ?_
        rintro _ ⟨n10, D11, s12, p13, c14⟩ ⟨r16, rfl, b17, hY15, k18, k19, k20, k21⟩
        have hS12 : bS s12 := hY15.1
        have hC14 : bC D11 c14 := hY15.2.1
        have hW13 : wp _ _ n10 D11 p13 s12 := hY15.2.2.1
        have FKc : fk p c n10 p13 c14 [3, 104] := hY15.2.2.2.1
        have FFc : fr s s12 [100, 101, 102, 103, 800, 801, 802, 803, 804, 805, 806, 807, 808, 809, 902, 1705, 1706, 2001, 2002, 2003, 2004, 2005, 2006, 2106, 2107, 2108, 2109, 2110, 2111, 2112, 2113, 2114, 2115, 2116, 2500, 2501, 2502, 2503, 2700, 2701, 2702, 2703] := hY15.2.2.2.2
        replace k18 : (r16 = 0 ∧ (1 ≤ ((xs ((i + 1)).toNat)) ∧ ((xs ((i + 1)).toNat)) ≤ 64) ∧ (1 ≤ ((xs ((i + 2)).toNat)) ∧ ((xs ((i + 2)).toNat)) ≤ 64) ∧ (((xs ((i + 3)).toNat)) = 1 ∨ ((xs ((i + 3)).toNat)) = 3) ∧ (2 ≤ ((xs ((i + 4)).toNat)) ∧ ((xs ((i + 4)).toNat)) ≤ 16)) ∨ (r16 = 1 ∧ ¬ ((1 ≤ ((xs ((i + 1)).toNat)) ∧ ((xs ((i + 1)).toNat)) ≤ 64) ∧ (1 ≤ ((xs ((i + 2)).toNat)) ∧ ((xs ((i + 2)).toNat)) ≤ 64) ∧ (((xs ((i + 3)).toNat)) = 1 ∨ ((xs ((i + 3)).toNat)) = 3) ∧ (2 ≤ ((xs ((i + 4)).toNat)) ∧ ((xs ((i + 4)).toNat)) ≤ 16))) := k18
        replace k21 : r16 ≠ 0 → fk p c n10 p13 c14 [] := k21
        show tt Zi 12 0 (148, [some (.inr (.inl 1000004)), some (.inr (.inl 0)), some (.inr (.inl 30)), some (.inr (.inl 47)), some (.inl i), o5, o6], [.inl r16], n10, D11, s12, p13, c14) _
        have tc100 : s12 100 = if r16 = 0 then (xs ((i + 1)).toNat) else (s 100) := gz_if (hW13.gz 100 rfl)
        have tc101 : s12 101 = if r16 = 0 then (xs ((i + 2)).toNat) else (s 101) := gz_if (hW13.gz 101 rfl)
        have tc102 : s12 102 = if r16 = 0 then (xs ((i + 3)).toNat) else (s 102) := gz_if (hW13.gz 102 rfl)
        have tc103 : s12 103 = if r16 = 0 then (xs ((i + 4)).toNat) else (s 103) := gz_if (hW13.gz 103 rfl)
        have tc3001 : s12 3001 = (s 3001) := gz_is (hW13.gz 3001 rfl) rfl
        have tc3002 : s12 3002 = (s 3002) := gz_is (hW13.gz 3002 rfl) rfl
        have tc3003 : s12 3003 = (s 3003) := gz_is (hW13.gz 3003 rfl) rfl
        have tc3004 : s12 3004 = (s 3004) := gz_is (hW13.gz 3004 rfl) rfl
        refine tt_k 6 (S' := (156, [some (.inr (.inl 1000004)), some (.inr (.inl 0)), some (.inr (.inl 30)), some (.inr (.inl 47)), some (.inl i), some (.inl r16), o6], [.inl (i + 1), .inr (.inl 1000004), .inr (.inl 30)], n10, D11, s12, p13, c14)) rfl ?_
        refine tt_stat (j := 4) (i := (i + 1)) rfl hs (by omega) ?_
        show tt Zi 12 0 (157, [some (.inr (.inl 1000004)), some (.inr (.inl 0)), some (.inr (.inl 30)), some (.inr (.inl 47)), some (.inl i), some (.inl r16), o6], [.inl ((xs ((i + 1)).toNat)), .inr (.inl 30)], n10, D11, s12, p13, c14) _
        refine tt_k 4 (S' := (162, [some (.inr (.inl 1000004)), some (.inr (.inl 0)), some (.inr (.inl 30)), some (.inr (.inl 47)), some (.inl i), some (.inl r16), o6], [.inl (i + 2), .inr (.inl 1000004), .inl ((xs ((i + 1)).toNat)), .inr (.inl 30)], n10, D11, s12, p13, c14)) rfl ?_
        refine tt_stat (j := 4) (i := (i + 2)) rfl hs (by omega) ?_
        show tt Zi 12 0 (163, [some (.inr (.inl 1000004)), some (.inr (.inl 0)), some (.inr (.inl 30)), some (.inr (.inl 47)), some (.inl i), some (.inl r16), o6], [.inl ((xs ((i + 2)).toNat)), .inl ((xs ((i + 1)).toNat)), .inr (.inl 30)], n10, D11, s12, p13, c14) _
        refine tt_k 4 (S' := (168, [some (.inr (.inl 1000004)), some (.inr (.inl 0)), some (.inr (.inl 30)), some (.inr (.inl 47)), some (.inl i), some (.inl r16), o6], [.inl (i + 3), .inr (.inl 1000004), .inl ((xs ((i + 2)).toNat)), .inl ((xs ((i + 1)).toNat)), .inr (.inl 30)], n10, D11, s12, p13, c14)) rfl ?_
        refine tt_stat (j := 4) (i := (i + 3)) rfl hs (by omega) ?_
        show tt Zi 12 0 (169, [some (.inr (.inl 1000004)), some (.inr (.inl 0)), some (.inr (.inl 30)), some (.inr (.inl 47)), some (.inl i), some (.inl r16), o6], [.inl ((xs ((i + 3)).toNat)), .inl ((xs ((i + 2)).toNat)), .inl ((xs ((i + 1)).toNat)), .inr (.inl 30)], n10, D11, s12, p13, c14) _
        refine tt_k 4 (S' := (174, [some (.inr (.inl 1000004)), some (.inr (.inl 0)), some (.inr (.inl 30)), some (.inr (.inl 47)), some (.inl i), some (.inl r16), o6], [.inl (i + 4), .inr (.inl 1000004), .inl ((xs ((i + 3)).toNat)), .inl ((xs ((i + 2)).toNat)), .inl ((xs ((i + 1)).toNat)), .inr (.inl 30)], n10, D11, s12, p13, c14)) rfl ?_
        refine tt_stat (j := 4) (i := (i + 4)) rfl hs (by omega) ?_
        show tt Zi 12 0 (175, [some (.inr (.inl 1000004)), some (.inr (.inl 0)), some (.inr (.inl 30)), some (.inr (.inl 47)), some (.inl i), some (.inl r16), o6], [.inl ((xs ((i + 4)).toNat)), .inl ((xs ((i + 3)).toNat)), .inl ((xs ((i + 2)).toNat)), .inl ((xs ((i + 1)).toNat)), .inr (.inl 30)], n10, D11, s12, p13, c14) _
        refine tt_cl (by omega) rfl (k_canvas2 (Zi := Zi) (D := D11) (s := s12) (p := p13) (c := c14) (by omega) hS12 hC14 ((xs ((i + 1)).toNat)) ((xs ((i + 2)).toNat)) ((xs ((i + 3)).toNat)) ((xs ((i + 4)).toNat)) (by omega) (by omega) (by omega) (by omega)) ?_
        rintro _ _ ⟨s22, c23, rfl, rfl, hS22, hC23, f24, g25, k26, k27, k28, k29, k30, k31, k32⟩
        have hW33 := wp_rf f24 (by decide) hW13
        show tt Zi 12 0 (178, [some (.inr (.inl 1000004)), some (.inr (.inl 0)), some (.inr (.inl 30)), some (.inr (.inl 47)), some (.inl i), some (.inl r16), o6], [], n10, D11, s22, p13, c23) _
        have te100 : s22 100 = (s12 100) := f24 100 (by decide)
        have te101 : s22 101 = (s12 101) := f24 101 (by decide)
        have te102 : s22 102 = (s12 102) := f24 102 (by decide)
        have te103 : s22 103 = (s12 103) := f24 103 (by decide)
        have ht2 : tie s22 := by
          by_cases hc : (1 ≤ (xs ((i + 1)).toNat) ∧ (xs ((i + 1)).toNat) ≤ 64) ∧ (1 ≤ (xs ((i + 2)).toNat) ∧ (xs ((i + 2)).toNat) ≤ 64) ∧ ((xs ((i + 3)).toNat) = 1 ∨ (xs ((i + 3)).toNat) = 3) ∧ (2 ≤ (xs ((i + 4)).toNat) ∧ (xs ((i + 4)).toNat) ≤ 16)
          · rcases k18 with ⟨er, _⟩ | ⟨er, hn⟩
            · rw [if_pos hc] at k27 k28 k29 k30
              rw [if_pos er] at tc100 tc101 tc102 tc103
              exact ⟨te100.trans (tc100.trans k27.symm), te101.trans (tc101.trans k28.symm), te102.trans (tc102.trans k29.symm), te103.trans (tc103.trans k30.symm)⟩
            · exact absurd hc hn
          · rcases k18 with ⟨er, hn⟩ | ⟨er, _⟩
            · exact absurd hn hc
            · have er2 : ¬ r16 = 0 := by rw [er]; decide
              rw [if_neg hc] at k27 k28 k29 k30
              rw [if_neg er2] at tc100 tc101 tc102 tc103
              exact ⟨te100.trans (tc100.trans (ht.1.trans (tc3001.symm.trans k27.symm))), te101.trans (tc101.trans (ht.2.1.trans (tc3002.symm.trans k28.symm))), te102.trans (tc102.trans (ht.2.2.1.trans (tc3003.symm.trans k29.symm))), te103.trans (tc103.trans (ht.2.2.2.trans (tc3004.symm.trans k30.symm)))⟩
        have tS2 : tiS s22 p13 c23 := tiS_cn hcE hrE FKc k18 k19 k21 g25 k31 (te100.trans tc100) (te101.trans tc101) (te102.trans tc102)
        have FKr := fk_rc FKc.1 g25 (by decide)
        have q1 : tqC c23 := tqC_cn hQ.1 FKc k18 k20 k21 g25 k32
        have q2 : tqW s22 := tqW_f (tqW_f hQ.2.1 FFc (by decide)) f24 (by decide)
        have q3 : tqP s22 p13 c23 := tqP_f hQ.2.2.1 FKc FKr (by decide) FFc (by decide) f24 (by decide)
        have q4 : tqT s22 := tqT_f (tqT_f hQ.2.2.2 FFc (by decide)) f24 (by decide)
        have tQ2 : tiQ s22 p13 c23 := ⟨q1, q2, q3, q4⟩
        clear k27 k28 k29 k30 k31 k32 tc100 tc101 tc102 tc103 tc3001 tc3002 tc3003 tc3004 te100 te101 te102 te103
        refine tt_k 3 (S' := (23, [some (.inr (.inl 1000004)), some (.inr (.inl 0)), some (.inr (.inl 30)), some (.inr (.inl 47)), some (.inl (i + 9)), some (.inl r16), o6], [], n10, D11, s22, p13, c23)) rfl ?_
        exact ih (q + 1) (i + 9) (some (.inl r16)) (o6) (n10, D11, s22, p13, c23) ⟨hS22, hC23, (wp_rg hW33), FKr.1⟩ ht2 tS2 tQ2 (by omega) (by omega) (by omega) (by omega)
      by_cases h34 : (mi_and (xs (i).toNat) 15) = 1
      · have h35 := h34
        refine tt_tsw (x := (mi_and (xs (i).toNat) 15)) (off := 141) rfl (by omega) (by omega) (by rw [h34]; rfl) rfl ?_
        show tt Zi 12 0 (181, [some (.inr (.inl 1000004)), some (.inr (.inl 0)), some (.inr (.inl 30)), some (.inr (.inl 47)), some (.inl i), o5, o6], [], n, D, s, p, c) _
        refine tt_k 5 (S' := (187, [some (.inr (.inl 1000004)), some (.inr (.inl 0)), some (.inr (.inl 30)), some (.inr (.inl 47)), some (.inl i), o5, o6], [.inl (i + 1), .inr (.inl 1000004), .inr (.inl 0)], n, D, s, p, c)) rfl ?_
        refine tt_stat (j := 4) (i := (i + 1)) rfl hs (by omega) ?_
        show tt Zi 12 0 (188, [some (.inr (.inl 1000004)), some (.inr (.inl 0)), some (.inr (.inl 30)), some (.inr (.inl 47)), some (.inl i), o5, o6], [.inl ((xs ((i + 1)).toNat)), .inr (.inl 0)], n, D, s, p, c) _
        have b36 := hxs ((i + 1)).toNat
        refine tt_k 4 (S' := (193, [some (.inr (.inl 1000004)), some (.inr (.inl 0)), some (.inr (.inl 30)), some (.inr (.inl 47)), some (.inl i), o5, o6], [.inl (i + 2), .inr (.inl 1000004), .inl ((xs ((i + 1)).toNat)), .inr (.inl 0)], n, D, s, p, c)) rfl ?_
        refine tt_stat (j := 4) (i := (i + 2)) rfl hs (by omega) ?_
        show tt Zi 12 0 (194, [some (.inr (.inl 1000004)), some (.inr (.inl 0)), some (.inr (.inl 30)), some (.inr (.inl 47)), some (.inl i), o5, o6], [.inl ((xs ((i + 2)).toNat)), .inl ((xs ((i + 1)).toNat)), .inr (.inl 0)], n, D, s, p, c) _
        have b37 := hxs ((i + 2)).toNat
        refine tt_k 4 (S' := (199, [some (.inr (.inl 1000004)), some (.inr (.inl 0)), some (.inr (.inl 30)), some (.inr (.inl 47)), some (.inl i), o5, o6], [.inl (i + 3), .inr (.inl 1000004), .inl ((xs ((i + 2)).toNat)), .inl ((xs ((i + 1)).toNat)), .inr (.inl 0)], n, D, s, p, c)) rfl ?_
        refine tt_stat (j := 4) (i := (i + 3)) rfl hs (by omega) ?_
        show tt Zi 12 0 (200, [some (.inr (.inl 1000004)), some (.inr (.inl 0)), some (.inr (.inl 30)), some (.inr (.inl 47)), some (.inl i), o5, o6], [.inl ((xs ((i + 3)).toNat)), .inl ((xs ((i + 2)).toNat)), .inl ((xs ((i + 1)).toNat)), .inr (.inl 0)], n, D, s, p, c) _
        have b38 := hxs ((i + 3)).toNat
        refine tt_k 4 (S' := (205, [some (.inr (.inl 1000004)), some (.inr (.inl 0)), some (.inr (.inl 30)), some (.inr (.inl 47)), some (.inl i), o5, o6], [.inl (i + 4), .inr (.inl 1000004), .inl ((xs ((i + 3)).toNat)), .inl ((xs ((i + 2)).toNat)), .inl ((xs ((i + 1)).toNat)), .inr (.inl 0)], n, D, s, p, c)) rfl ?_
        refine tt_stat (j := 4) (i := (i + 4)) rfl hs (by omega) ?_
        show tt Zi 12 0 (206, [some (.inr (.inl 1000004)), some (.inr (.inl 0)), some (.inr (.inl 30)), some (.inr (.inl 47)), some (.inl i), o5, o6], [.inl ((xs ((i + 4)).toNat)), .inl ((xs ((i + 3)).toNat)), .inl ((xs ((i + 2)).toNat)), .inl ((xs ((i + 1)).toNat)), .inr (.inl 0)], n, D, s, p, c) _
        have b39 := hxs ((i + 4)).toNat
        refine tt_k 4 (S' := (211, [some (.inr (.inl 1000004)), some (.inr (.inl 0)), some (.inr (.inl 30)), some (.inr (.inl 47)), some (.inl i), o5, o6], [.inl (i + 5), .inr (.inl 1000004), .inl ((xs ((i + 4)).toNat)), .inl ((xs ((i + 3)).toNat)), .inl ((xs ((i + 2)).toNat)), .inl ((xs ((i + 1)).toNat)), .inr (.inl 0)], n, D, s, p, c)) rfl ?_
        refine tt_stat (j := 4) (i := (i + 5)) rfl hs (by omega) ?_
        show tt Zi 12 0 (212, [some (.inr (.inl 1000004)), some (.inr (.inl 0)), some (.inr (.inl 30)), some (.inr (.inl 47)), some (.inl i), o5, o6], [.inl ((xs ((i + 5)).toNat)), .inl ((xs ((i + 4)).toNat)), .inl ((xs ((i + 3)).toNat)), .inl ((xs ((i + 2)).toNat)), .inl ((xs ((i + 1)).toNat)), .inr (.inl 0)], n, D, s, p, c) _
        have b40 := hxs ((i + 5)).toNat
        refine tt_k 4 (S' := (218, [some (.inr (.inl 1000004)), some (.inr (.inl 0)), some (.inr (.inl 30)), some (.inr (.inl 47)), some (.inl i), o5, o6], [.inl (i + 6), .inr (.inl 1000004), .inl ((xs ((i + 5)).toNat)), .inl ((xs ((i + 4)).toNat)), .inl ((xs ((i + 3)).toNat)), .inl ((xs ((i + 2)).toNat)), .inl ((xs ((i + 1)).toNat)), .inr (.inl 0)], n, D, s, p, c)) rfl ?_
        refine tt_stat (j := 4) (i := (i + 6)) rfl hs (by omega) ?_
        show tt Zi 12 0 (219, [some (.inr (.inl 1000004)), some (.inr (.inl 0)), some (.inr (.inl 30)), some (.inr (.inl 47)), some (.inl i), o5, o6], [.inl ((xs ((i + 6)).toNat)), .inl ((xs ((i + 5)).toNat)), .inl ((xs ((i + 4)).toNat)), .inl ((xs ((i + 3)).toNat)), .inl ((xs ((i + 2)).toNat)), .inl ((xs ((i + 1)).toNat)), .inr (.inl 0)], n, D, s, p, c) _
        have b41 := hxs ((i + 6)).toNat
        refine tt_k 4 (S' := (225, [some (.inr (.inl 1000004)), some (.inr (.inl 0)), some (.inr (.inl 30)), some (.inr (.inl 47)), some (.inl i), o5, o6], [.inl (i + 7), .inr (.inl 1000004), .inl ((xs ((i + 6)).toNat)), .inl ((xs ((i + 5)).toNat)), .inl ((xs ((i + 4)).toNat)), .inl ((xs ((i + 3)).toNat)), .inl ((xs ((i + 2)).toNat)), .inl ((xs ((i + 1)).toNat)), .inr (.inl 0)], n, D, s, p, c)) rfl ?_
        refine tt_stat (j := 4) (i := (i + 7)) rfl hs (by omega) ?_
        show tt Zi 12 0 (226, [some (.inr (.inl 1000004)), some (.inr (.inl 0)), some (.inr (.inl 30)), some (.inr (.inl 47)), some (.inl i), o5, o6], [.inl ((xs ((i + 7)).toNat)), .inl ((xs ((i + 6)).toNat)), .inl ((xs ((i + 5)).toNat)), .inl ((xs ((i + 4)).toNat)), .inl ((xs ((i + 3)).toNat)), .inl ((xs ((i + 2)).toNat)), .inl ((xs ((i + 1)).toNat)), .inr (.inl 0)], n, D, s, p, c) _
        have b42 := hxs ((i + 7)).toNat
        refine tt_k 4 (S' := (232, [some (.inr (.inl 1000004)), some (.inr (.inl 0)), some (.inr (.inl 30)), some (.inr (.inl 47)), some (.inl i), o5, o6], [.inl (i + 8), .inr (.inl 1000004), .inl ((xs ((i + 7)).toNat)), .inl ((xs ((i + 6)).toNat)), .inl ((xs ((i + 5)).toNat)), .inl ((xs ((i + 4)).toNat)), .inl ((xs ((i + 3)).toNat)), .inl ((xs ((i + 2)).toNat)), .inl ((xs ((i + 1)).toNat)), .inr (.inl 0)], n, D, s, p, c)) rfl ?_
        refine tt_stat (j := 4) (i := (i + 8)) rfl hs (by omega) ?_
        show tt Zi 12 0 (233, [some (.inr (.inl 1000004)), some (.inr (.inl 0)), some (.inr (.inl 30)), some (.inr (.inl 47)), some (.inl i), o5, o6], [.inl ((xs ((i + 8)).toNat)), .inl ((xs ((i + 7)).toNat)), .inl ((xs ((i + 6)).toNat)), .inl ((xs ((i + 5)).toNat)), .inl ((xs ((i + 4)).toNat)), .inl ((xs ((i + 3)).toNat)), .inl ((xs ((i + 2)).toNat)), .inl ((xs ((i + 1)).toNat)), .inr (.inl 0)], n, D, s, p, c) _
        have b43 := hxs ((i + 8)).toNat
        refine tt_cl (by omega) rfl (h_draw (Zi := Zi) (q := q) (n := n) (D := D) (s := s) (p := p) (c := c) (by omega) hz (by omega) hD hS hC (wp_rg hW) E ((xs ((i + 1)).toNat)) ((xs ((i + 2)).toNat)) ((xs ((i + 3)).toNat)) ((xs ((i + 4)).toNat)) ((xs ((i + 5)).toNat)) ((xs ((i + 6)).toNat)) ((xs ((i + 7)).toNat)) ((xs ((i + 8)).toNat)) (by omega) (by omega) (by omega) (by omega) (by omega) (by omega) (by omega) (by omega) hcE) ?_
        rintro _ ⟨n44, D45, s46, p47, c48⟩ ⟨r50, rfl, b51, hY49, k52, k53, k54⟩
        have hS46 : bS s46 := hY49.1
        have hC48 : bC D45 c48 := hY49.2.1
        have hW47 : wp _ _ n44 D45 p47 s46 := hY49.2.2.1
        have FKc : fk p c n44 p47 c48 [104] := hY49.2.2.2.1
        have FFc : fr s s46 [800, 801, 802, 803, 804, 805, 806, 807, 808, 809, 902, 1705, 1706, 2001, 2002, 2003, 2004, 2005, 2006, 2106, 2107, 2108, 2109, 2110, 2111, 2112, 2113, 2114, 2115, 2116, 2500, 2501, 2502, 2503, 2700, 2701, 2702, 2703] := hY49.2.2.2.2
        replace k52 : dwP r50 ((xs ((i + 1)).toNat)) ((xs ((i + 2)).toNat)) ((xs ((i + 3)).toNat)) ((xs ((i + 4)).toNat)) ((xs ((i + 5)).toNat)) ((xs ((i + 6)).toNat)) ((xs ((i + 7)).toNat)) ((xs ((i + 8)).toNat)) (s 100) (s 101) (s 102) (s 103) := k52
        replace k53 : r50 = 0 → cv (dE E ((xs ((i + 1)).toNat)) ((xs ((i + 2)).toNat)) ((xs ((i + 3)).toNat)) ((xs ((i + 4)).toNat)) ((xs ((i + 5)).toNat)) ((xs ((i + 6)).toNat)) ((xs ((i + 7)).toNat)) ((xs ((i + 8)).toNat)) (mi_shl 1 (s 103) - 1) ((xs ((i + 5)).toNat)) 0) (s 100) (s 101) (s 102) (c48 (p47 104)) := k53
        replace k54 : r50 ≠ 0 → fk p c n44 p47 c48 [] := k54
        show tt Zi 12 0 (236, [some (.inr (.inl 1000004)), some (.inr (.inl 0)), some (.inr (.inl 30)), some (.inr (.inl 47)), some (.inl i), o5, o6], [.inl r50], n44, D45, s46, p47, c48) _
        have tc100 : s46 100 = (s 100) := hW47.gz 100 rfl
        have tc101 : s46 101 = (s 101) := hW47.gz 101 rfl
        have tc102 : s46 102 = (s 102) := hW47.gz 102 rfl
        have tc103 : s46 103 = (s 103) := hW47.gz 103 rfl
        have tc3001 : s46 3001 = (s 3001) := hW47.gz 3001 rfl
        have tc3002 : s46 3002 = (s 3002) := hW47.gz 3002 rfl
        have tc3003 : s46 3003 = (s 3003) := hW47.gz 3003 rfl
        have tc3004 : s46 3004 = (s 3004) := hW47.gz 3004 rfl
        refine tt_k 6 (S' := (244, [some (.inr (.inl 1000004)), some (.inr (.inl 0)), some (.inr (.inl 30)), some (.inr (.inl 47)), some (.inl i), some (.inl r50), o6], [.inl (i + 1), .inr (.inl 1000004), .inr (.inl 30)], n44, D45, s46, p47, c48)) rfl ?_
        refine tt_stat (j := 4) (i := (i + 1)) rfl hs (by omega) ?_
        show tt Zi 12 0 (245, [some (.inr (.inl 1000004)), some (.inr (.inl 0)), some (.inr (.inl 30)), some (.inr (.inl 47)), some (.inl i), some (.inl r50), o6], [.inl ((xs ((i + 1)).toNat)), .inr (.inl 30)], n44, D45, s46, p47, c48) _
        refine tt_k 4 (S' := (250, [some (.inr (.inl 1000004)), some (.inr (.inl 0)), some (.inr (.inl 30)), some (.inr (.inl 47)), some (.inl i), some (.inl r50), o6], [.inl (i + 2), .inr (.inl 1000004), .inl ((xs ((i + 1)).toNat)), .inr (.inl 30)], n44, D45, s46, p47, c48)) rfl ?_
        refine tt_stat (j := 4) (i := (i + 2)) rfl hs (by omega) ?_
        show tt Zi 12 0 (251, [some (.inr (.inl 1000004)), some (.inr (.inl 0)), some (.inr (.inl 30)), some (.inr (.inl 47)), some (.inl i), some (.inl r50), o6], [.inl ((xs ((i + 2)).toNat)), .inl ((xs ((i + 1)).toNat)), .inr (.inl 30)], n44, D45, s46, p47, c48) _
        refine tt_k 4 (S' := (256, [some (.inr (.inl 1000004)), some (.inr (.inl 0)), some (.inr (.inl 30)), some (.inr (.inl 47)), some (.inl i), some (.inl r50), o6], [.inl (i + 3), .inr (.inl 1000004), .inl ((xs ((i + 2)).toNat)), .inl ((xs ((i + 1)).toNat)), .inr (.inl 30)], n44, D45, s46, p47, c48)) rfl ?_
        refine tt_stat (j := 4) (i := (i + 3)) rfl hs (by omega) ?_
        show tt Zi 12 0 (257, [some (.inr (.inl 1000004)), some (.inr (.inl 0)), some (.inr (.inl 30)), some (.inr (.inl 47)), some (.inl i), some (.inl r50), o6], [.inl ((xs ((i + 3)).toNat)), .inl ((xs ((i + 2)).toNat)), .inl ((xs ((i + 1)).toNat)), .inr (.inl 30)], n44, D45, s46, p47, c48) _
        refine tt_k 4 (S' := (262, [some (.inr (.inl 1000004)), some (.inr (.inl 0)), some (.inr (.inl 30)), some (.inr (.inl 47)), some (.inl i), some (.inl r50), o6], [.inl (i + 4), .inr (.inl 1000004), .inl ((xs ((i + 3)).toNat)), .inl ((xs ((i + 2)).toNat)), .inl ((xs ((i + 1)).toNat)), .inr (.inl 30)], n44, D45, s46, p47, c48)) rfl ?_
        refine tt_stat (j := 4) (i := (i + 4)) rfl hs (by omega) ?_
        show tt Zi 12 0 (263, [some (.inr (.inl 1000004)), some (.inr (.inl 0)), some (.inr (.inl 30)), some (.inr (.inl 47)), some (.inl i), some (.inl r50), o6], [.inl ((xs ((i + 4)).toNat)), .inl ((xs ((i + 3)).toNat)), .inl ((xs ((i + 2)).toNat)), .inl ((xs ((i + 1)).toNat)), .inr (.inl 30)], n44, D45, s46, p47, c48) _
        refine tt_k 4 (S' := (268, [some (.inr (.inl 1000004)), some (.inr (.inl 0)), some (.inr (.inl 30)), some (.inr (.inl 47)), some (.inl i), some (.inl r50), o6], [.inl (i + 5), .inr (.inl 1000004), .inl ((xs ((i + 4)).toNat)), .inl ((xs ((i + 3)).toNat)), .inl ((xs ((i + 2)).toNat)), .inl ((xs ((i + 1)).toNat)), .inr (.inl 30)], n44, D45, s46, p47, c48)) rfl ?_
        refine tt_stat (j := 4) (i := (i + 5)) rfl hs (by omega) ?_
        show tt Zi 12 0 (269, [some (.inr (.inl 1000004)), some (.inr (.inl 0)), some (.inr (.inl 30)), some (.inr (.inl 47)), some (.inl i), some (.inl r50), o6], [.inl ((xs ((i + 5)).toNat)), .inl ((xs ((i + 4)).toNat)), .inl ((xs ((i + 3)).toNat)), .inl ((xs ((i + 2)).toNat)), .inl ((xs ((i + 1)).toNat)), .inr (.inl 30)], n44, D45, s46, p47, c48) _
        refine tt_k 4 (S' := (275, [some (.inr (.inl 1000004)), some (.inr (.inl 0)), some (.inr (.inl 30)), some (.inr (.inl 47)), some (.inl i), some (.inl r50), o6], [.inl (i + 6), .inr (.inl 1000004), .inl ((xs ((i + 5)).toNat)), .inl ((xs ((i + 4)).toNat)), .inl ((xs ((i + 3)).toNat)), .inl ((xs ((i + 2)).toNat)), .inl ((xs ((i + 1)).toNat)), .inr (.inl 30)], n44, D45, s46, p47, c48)) rfl ?_
        refine tt_stat (j := 4) (i := (i + 6)) rfl hs (by omega) ?_
        show tt Zi 12 0 (276, [some (.inr (.inl 1000004)), some (.inr (.inl 0)), some (.inr (.inl 30)), some (.inr (.inl 47)), some (.inl i), some (.inl r50), o6], [.inl ((xs ((i + 6)).toNat)), .inl ((xs ((i + 5)).toNat)), .inl ((xs ((i + 4)).toNat)), .inl ((xs ((i + 3)).toNat)), .inl ((xs ((i + 2)).toNat)), .inl ((xs ((i + 1)).toNat)), .inr (.inl 30)], n44, D45, s46, p47, c48) _
        refine tt_k 4 (S' := (282, [some (.inr (.inl 1000004)), some (.inr (.inl 0)), some (.inr (.inl 30)), some (.inr (.inl 47)), some (.inl i), some (.inl r50), o6], [.inl (i + 7), .inr (.inl 1000004), .inl ((xs ((i + 6)).toNat)), .inl ((xs ((i + 5)).toNat)), .inl ((xs ((i + 4)).toNat)), .inl ((xs ((i + 3)).toNat)), .inl ((xs ((i + 2)).toNat)), .inl ((xs ((i + 1)).toNat)), .inr (.inl 30)], n44, D45, s46, p47, c48)) rfl ?_
        refine tt_stat (j := 4) (i := (i + 7)) rfl hs (by omega) ?_
        show tt Zi 12 0 (283, [some (.inr (.inl 1000004)), some (.inr (.inl 0)), some (.inr (.inl 30)), some (.inr (.inl 47)), some (.inl i), some (.inl r50), o6], [.inl ((xs ((i + 7)).toNat)), .inl ((xs ((i + 6)).toNat)), .inl ((xs ((i + 5)).toNat)), .inl ((xs ((i + 4)).toNat)), .inl ((xs ((i + 3)).toNat)), .inl ((xs ((i + 2)).toNat)), .inl ((xs ((i + 1)).toNat)), .inr (.inl 30)], n44, D45, s46, p47, c48) _
        refine tt_k 4 (S' := (289, [some (.inr (.inl 1000004)), some (.inr (.inl 0)), some (.inr (.inl 30)), some (.inr (.inl 47)), some (.inl i), some (.inl r50), o6], [.inl (i + 8), .inr (.inl 1000004), .inl ((xs ((i + 7)).toNat)), .inl ((xs ((i + 6)).toNat)), .inl ((xs ((i + 5)).toNat)), .inl ((xs ((i + 4)).toNat)), .inl ((xs ((i + 3)).toNat)), .inl ((xs ((i + 2)).toNat)), .inl ((xs ((i + 1)).toNat)), .inr (.inl 30)], n44, D45, s46, p47, c48)) rfl ?_
        refine tt_stat (j := 4) (i := (i + 8)) rfl hs (by omega) ?_
        show tt Zi 12 0 (290, [some (.inr (.inl 1000004)), some (.inr (.inl 0)), some (.inr (.inl 30)), some (.inr (.inl 47)), some (.inl i), some (.inl r50), o6], [.inl ((xs ((i + 8)).toNat)), .inl ((xs ((i + 7)).toNat)), .inl ((xs ((i + 6)).toNat)), .inl ((xs ((i + 5)).toNat)), .inl ((xs ((i + 4)).toNat)), .inl ((xs ((i + 3)).toNat)), .inl ((xs ((i + 2)).toNat)), .inl ((xs ((i + 1)).toNat)), .inr (.inl 30)], n44, D45, s46, p47, c48) _
        have eq3001 : (s46 3001) = s 100 := tc3001.trans ht.1.symm
        have eq3002 : (s46 3002) = s 101 := tc3002.trans ht.2.1.symm
        have eq3003 : (s46 3003) = s 102 := tc3003.trans ht.2.2.1.symm
        have eq3004 : (s46 3004) = s 103 := tc3004.trans ht.2.2.2.symm
        have hcr : cr E (s46 3001) (s46 3002) (s46 3003) (c48 31) := by rw [eq3001, eq3002, eq3003, fk_c (k := 31) FKc (by decide)]; exact hrE
        refine tt_cl (by omega) rfl (k_draw2 (Zi := Zi) (D := D45) (s := s46) (p := p47) (c := c48) (by omega) hS46 hC48 E ((xs ((i + 1)).toNat)) ((xs ((i + 2)).toNat)) ((xs ((i + 3)).toNat)) ((xs ((i + 4)).toNat)) ((xs ((i + 5)).toNat)) ((xs ((i + 6)).toNat)) ((xs ((i + 7)).toNat)) ((xs ((i + 8)).toNat)) (by omega) (by omega) (by omega) (by omega) (by omega) (by omega) (by omega) (by omega) hcr) ?_
        rintro _ _ ⟨s55, c56, rfl, rfl, hS55, hC56, f57, g58, k59, k60, k61⟩
        have hW62 := wp_rf f57 (by decide) hW47
        show tt Zi 12 0 (293, [some (.inr (.inl 1000004)), some (.inr (.inl 0)), some (.inr (.inl 30)), some (.inr (.inl 47)), some (.inl i), some (.inl r50), o6], [], n44, D45, s55, p47, c56) _
        have te100 : s55 100 = (s46 100) := f57 100 (by decide)
        have te101 : s55 101 = (s46 101) := f57 101 (by decide)
        have te102 : s55 102 = (s46 102) := f57 102 (by decide)
        have te103 : s55 103 = (s46 103) := f57 103 (by decide)
        have te3001 : s55 3001 = (s46 3001) := f57 3001 (by decide)
        have te3002 : s55 3002 = (s46 3002) := f57 3002 (by decide)
        have te3003 : s55 3003 = (s46 3003) := f57 3003 (by decide)
        have te3004 : s55 3004 = (s46 3004) := f57 3004 (by decide)
        have ht2 : tie s55 := ⟨te100.trans (tc100.trans (ht.1.trans (tc3001.symm.trans te3001.symm))), te101.trans (tc101.trans (ht.2.1.trans (tc3002.symm.trans te3002.symm))), te102.trans (tc102.trans (ht.2.2.1.trans (tc3003.symm.trans te3003.symm))), te103.trans (tc103.trans (ht.2.2.2.trans (tc3004.symm.trans te3004.symm)))⟩
        have FKr := fk_rc FKc.1 g58 (by decide)
        have hqd := dw_eq (k52) k59 eq3001 eq3002 eq3003 eq3004
        have tS2 : tiS s55 p47 c56 := tiS_dr hcE hrE FKc k53 k54 g58 k60 k61 hqd eq3001 eq3002 eq3003 eq3004 (te100.trans tc100) (te101.trans tc101) (te102.trans tc102)
        clear k59 k60 k61 eq3001 eq3002 eq3003 eq3004
        have q1 : tqC c56 := tqC_f hQ.1 FKc FKr (by decide)
        have q2 : tqW s55 := tqW_f (tqW_f hQ.2.1 FFc (by decide)) f57 (by decide)
        have q3 : tqP s55 p47 c56 := tqP_f hQ.2.2.1 FKc FKr (by decide) FFc (by decide) f57 (by decide)
        have q4 : tqT s55 := tqT_f (tqT_f hQ.2.2.2 FFc (by decide)) f57 (by decide)
        have tQ2 : tiQ s55 p47 c56 := ⟨q1, q2, q3, q4⟩
        clear tc100 tc101 tc102 tc103 tc3001 tc3002 tc3003 tc3004 te100 te101 te102 te103 te3001 te3002 te3003 te3004
        refine tt_k 3 (S' := (23, [some (.inr (.inl 1000004)), some (.inr (.inl 0)), some (.inr (.inl 30)), some (.inr (.inl 47)), some (.inl (i + 9)), some (.inl r50), o6], [], n44, D45, s55, p47, c56)) rfl ?_
        exact ih (q + 1) (i + 9) (some (.inl r50)) (o6) (n44, D45, s55, p47, c56) ⟨hS55, hC56, (wp_rg hW62), FKr.1⟩ ht2 tS2 tQ2 (by omega) (by omega) (by omega) (by omega)
      by_cases h63 : (mi_and (xs (i).toNat) 15) = 2
      · have h64 := h63
        refine tt_tsw (x := (mi_and (xs (i).toNat) 15)) (off := 256) rfl (by omega) (by omega) (by rw [h63]; rfl) rfl ?_
        show tt Zi 12 0 (296, [some (.inr (.inl 1000004)), some (.inr (.inl 0)), some (.inr (.inl 30)), some (.inr (.inl 47)), some (.inl i), o5, o6], [], n, D, s, p, c) _
        refine tt_k 5 (S' := (302, [some (.inr (.inl 1000004)), some (.inr (.inl 0)), some (.inr (.inl 30)), some (.inr (.inl 47)), some (.inl i), o5, o6], [.inl (i + 1), .inr (.inl 1000004), .inr (.inl 0)], n, D, s, p, c)) rfl ?_
        refine tt_stat (j := 4) (i := (i + 1)) rfl hs (by omega) ?_
        show tt Zi 12 0 (303, [some (.inr (.inl 1000004)), some (.inr (.inl 0)), some (.inr (.inl 30)), some (.inr (.inl 47)), some (.inl i), o5, o6], [.inl ((xs ((i + 1)).toNat)), .inr (.inl 0)], n, D, s, p, c) _
        have b65 := hxs ((i + 1)).toNat
        refine tt_k 4 (S' := (308, [some (.inr (.inl 1000004)), some (.inr (.inl 0)), some (.inr (.inl 30)), some (.inr (.inl 47)), some (.inl i), o5, o6], [.inl (i + 2), .inr (.inl 1000004), .inl ((xs ((i + 1)).toNat)), .inr (.inl 0)], n, D, s, p, c)) rfl ?_
        refine tt_stat (j := 4) (i := (i + 2)) rfl hs (by omega) ?_
        show tt Zi 12 0 (309, [some (.inr (.inl 1000004)), some (.inr (.inl 0)), some (.inr (.inl 30)), some (.inr (.inl 47)), some (.inl i), o5, o6], [.inl ((xs ((i + 2)).toNat)), .inl ((xs ((i + 1)).toNat)), .inr (.inl 0)], n, D, s, p, c) _
        have b66 := hxs ((i + 2)).toNat
        refine tt_k 4 (S' := (314, [some (.inr (.inl 1000004)), some (.inr (.inl 0)), some (.inr (.inl 30)), some (.inr (.inl 47)), some (.inl i), o5, o6], [.inl (i + 3), .inr (.inl 1000004), .inl ((xs ((i + 2)).toNat)), .inl ((xs ((i + 1)).toNat)), .inr (.inl 0)], n, D, s, p, c)) rfl ?_
        refine tt_stat (j := 4) (i := (i + 3)) rfl hs (by omega) ?_
        show tt Zi 12 0 (315, [some (.inr (.inl 1000004)), some (.inr (.inl 0)), some (.inr (.inl 30)), some (.inr (.inl 47)), some (.inl i), o5, o6], [.inl ((xs ((i + 3)).toNat)), .inl ((xs ((i + 2)).toNat)), .inl ((xs ((i + 1)).toNat)), .inr (.inl 0)], n, D, s, p, c) _
        have b67 := hxs ((i + 3)).toNat
        refine tt_k 1 (S' := (316, [some (.inr (.inl 1000004)), some (.inr (.inl 0)), some (.inr (.inl 30)), some (.inr (.inl 47)), some (.inl i), o5, o6], [.inr (.inl 47), .inl ((xs ((i + 3)).toNat)), .inl ((xs ((i + 2)).toNat)), .inl ((xs ((i + 1)).toNat)), .inr (.inl 0)], n, D, s, p, c)) rfl ?_
        refine tt_cl (by omega) rfl (h_at (Zi := Zi) (q := q) (n := n) (D := D) (s := s) (p := p) (c := c) (by omega) hz (by omega) hD hS hC (wp_rg hW) ((xs ((i + 1)).toNat)) ((xs ((i + 2)).toNat)) ((xs ((i + 3)).toNat)) (by omega) (by omega) (by omega)) ?_
        rintro _ ⟨n68, D69, s70, p71, c72⟩ ⟨r74, rfl, b75, hY73, k76⟩
        have hS70 : bS s70 := hY73.1
        have hC72 : bC D69 c72 := hY73.2.1
        have hW71 : wp _ _ n68 D69 p71 s70 := hY73.2.2.1
        have FKc : fk p c n68 p71 c72 [47] := hY73.2.2.2.1
        have FFc : fr s s70 [800, 801, 802, 803, 804, 805, 806, 807, 808, 809, 902, 1705, 1706, 2001, 2002, 2003, 2004, 2005, 2006, 2106, 2107, 2108, 2109, 2110, 2111, 2112, 2113, 2114, 2115, 2116, 2500, 2501, 2502, 2503, 2700, 2701, 2702, 2703] := hY73.2.2.2.2
        replace k76 : atP r74 ((xs ((i + 1)).toNat)) ((xs ((i + 2)).toNat)) ((xs ((i + 3)).toNat)) (s 100) (s 101) (s 102) (c72 47 0) (c (p 104) ((((xs ((i + 1)).toNat)) * s 101 + ((xs ((i + 3)).toNat))) * s 100 + ((xs ((i + 2)).toNat))).toNat) := k76
        show tt Zi 12 0 (319, [some (.inr (.inl 1000004)), some (.inr (.inl 0)), some (.inr (.inl 30)), some (.inr (.inl 47)), some (.inl i), o5, o6], [.inl r74], n68, D69, s70, p71, c72) _
        have tc100 : s70 100 = (s 100) := hW71.gz 100 rfl
        have tc101 : s70 101 = (s 101) := hW71.gz 101 rfl
        have tc102 : s70 102 = (s 102) := hW71.gz 102 rfl
        have tc103 : s70 103 = (s 103) := hW71.gz 103 rfl
        have tc3001 : s70 3001 = (s 3001) := hW71.gz 3001 rfl
        have tc3002 : s70 3002 = (s 3002) := hW71.gz 3002 rfl
        have tc3003 : s70 3003 = (s 3003) := hW71.gz 3003 rfl
        have tc3004 : s70 3004 = (s 3004) := hW71.gz 3004 rfl
        refine tt_k 6 (S' := (327, [some (.inr (.inl 1000004)), some (.inr (.inl 0)), some (.inr (.inl 30)), some (.inr (.inl 47)), some (.inl i), some (.inl r74), o6], [.inl (i + 1), .inr (.inl 1000004), .inr (.inl 30)], n68, D69, s70, p71, c72)) rfl ?_
        refine tt_stat (j := 4) (i := (i + 1)) rfl hs (by omega) ?_
        show tt Zi 12 0 (328, [some (.inr (.inl 1000004)), some (.inr (.inl 0)), some (.inr (.inl 30)), some (.inr (.inl 47)), some (.inl i), some (.inl r74), o6], [.inl ((xs ((i + 1)).toNat)), .inr (.inl 30)], n68, D69, s70, p71, c72) _
        refine tt_k 4 (S' := (333, [some (.inr (.inl 1000004)), some (.inr (.inl 0)), some (.inr (.inl 30)), some (.inr (.inl 47)), some (.inl i), some (.inl r74), o6], [.inl (i + 2), .inr (.inl 1000004), .inl ((xs ((i + 1)).toNat)), .inr (.inl 30)], n68, D69, s70, p71, c72)) rfl ?_
        refine tt_stat (j := 4) (i := (i + 2)) rfl hs (by omega) ?_
        show tt Zi 12 0 (334, [some (.inr (.inl 1000004)), some (.inr (.inl 0)), some (.inr (.inl 30)), some (.inr (.inl 47)), some (.inl i), some (.inl r74), o6], [.inl ((xs ((i + 2)).toNat)), .inl ((xs ((i + 1)).toNat)), .inr (.inl 30)], n68, D69, s70, p71, c72) _
        refine tt_k 4 (S' := (339, [some (.inr (.inl 1000004)), some (.inr (.inl 0)), some (.inr (.inl 30)), some (.inr (.inl 47)), some (.inl i), some (.inl r74), o6], [.inl (i + 3), .inr (.inl 1000004), .inl ((xs ((i + 2)).toNat)), .inl ((xs ((i + 1)).toNat)), .inr (.inl 30)], n68, D69, s70, p71, c72)) rfl ?_
        refine tt_stat (j := 4) (i := (i + 3)) rfl hs (by omega) ?_
        show tt Zi 12 0 (340, [some (.inr (.inl 1000004)), some (.inr (.inl 0)), some (.inr (.inl 30)), some (.inr (.inl 47)), some (.inl i), some (.inl r74), o6], [.inl ((xs ((i + 3)).toNat)), .inl ((xs ((i + 2)).toNat)), .inl ((xs ((i + 1)).toNat)), .inr (.inl 30)], n68, D69, s70, p71, c72) _
        refine tt_cl (by omega) rfl (k_at2 (Zi := Zi) (D := D69) (s := s70) (p := p71) (c := c72) (by omega) hS70 hC72 ((xs ((i + 1)).toNat)) ((xs ((i + 2)).toNat)) ((xs ((i + 3)).toNat)) (by omega) (by omega) (by omega)) ?_
        rintro _ _ ⟨s77, r78, rfl, rfl, hS77, f79, b80, k81, k82⟩
        have hW83 := wp_rf f79 (by decide) hW71
        show tt Zi 12 0 (343, [some (.inr (.inl 1000004)), some (.inr (.inl 0)), some (.inr (.inl 30)), some (.inr (.inl 47)), some (.inl i), some (.inl r74), o6], [.inl r78], n68, D69, s77, p71, c72) _
        have te100 : s77 100 = (s70 100) := f79 100 (by decide)
        have te101 : s77 101 = (s70 101) := f79 101 (by decide)
        have te102 : s77 102 = (s70 102) := f79 102 (by decide)
        have te103 : s77 103 = (s70 103) := f79 103 (by decide)
        have te3001 : s77 3001 = (s70 3001) := f79 3001 (by decide)
        have te3002 : s77 3002 = (s70 3002) := f79 3002 (by decide)
        have te3003 : s77 3003 = (s70 3003) := f79 3003 (by decide)
        have te3004 : s77 3004 = (s70 3004) := f79 3004 (by decide)
        have ht2 : tie s77 := ⟨te100.trans (tc100.trans (ht.1.trans (tc3001.symm.trans te3001.symm))), te101.trans (tc101.trans (ht.2.1.trans (tc3002.symm.trans te3002.symm))), te102.trans (tc102.trans (ht.2.2.1.trans (tc3003.symm.trans te3003.symm))), te103.trans (tc103.trans (ht.2.2.2.trans (tc3004.symm.trans te3004.symm)))⟩
        have FKr := fk_rf (c := c72) (K := []) FKc.1
        have tS2 : tiS s77 p71 c72 := tiS_fk (tiS_fk ⟨E, hcE, hrE⟩ FKc (by decide) tc100 tc101 tc102) FKr (by decide) te100 te101 te102
        have eq3001 : (s70 3001) = s 100 := tc3001.trans ht.1.symm
        have eq3002 : (s70 3002) = s 101 := tc3002.trans ht.2.1.symm
        have eq3003 : (s70 3003) = s 102 := tc3003.trans ht.2.2.1.symm
        have hqa := at_q hcE hrE FKc k76 k81 k82 eq3001 eq3002 eq3003
        clear k81 k82 eq3001 eq3002 eq3003
        have q1 : tqC c72 := tqC_f hQ.1 FKc FKr (by decide)
        have q2 : tqW s77 := tqW_f (tqW_f hQ.2.1 FFc (by decide)) f79 (by decide)
        have q3 : tqP s77 p71 c72 := tqP_f hQ.2.2.1 FKc FKr (by decide) FFc (by decide) f79 (by decide)
        have q4 : tqT s77 := tqT_f (tqT_f hQ.2.2.2 FFc (by decide)) f79 (by decide)
        have tQ2 : tiQ s77 p71 c72 := ⟨q1, q2, q3, q4⟩
        clear tc100 tc101 tc102 tc103 tc3001 tc3002 tc3003 tc3004 te100 te101 te102 te103 te3001 te3002 te3003 te3004
        refine tt_k 4 (S' := (23, [some (.inr (.inl 1000004)), some (.inr (.inl 0)), some (.inr (.inl 30)), some (.inr (.inl 47)), some (.inl (i + 9)), some (.inl r74), some (.inl r78)], [], n68, D69, s77, p71, c72)) rfl ?_
        exact ih (q + 1) (i + 9) (some (.inl r74)) (some (.inl r78)) (n68, D69, s77, p71, c72) ⟨hS77, hC72, (wp_rg hW83), FKr.1⟩ ht2 tS2 tQ2 (by omega) (by omega) (by omega) (by omega)
      by_cases h84 : (mi_and (xs (i).toNat) 15) = 3
      · have h85 := h84
        refine tt_tsw (x := (mi_and (xs (i).toNat) 15)) (off := 308) rfl (by omega) (by omega) (by rw [h84]; rfl) rfl ?_
        show tt Zi 12 0 (348, [some (.inr (.inl 1000004)), some (.inr (.inl 0)), some (.inr (.inl 30)), some (.inr (.inl 47)), some (.inl i), o5, o6], [], n, D, s, p, c) _
        refine tt_k 5 (S' := (354, [some (.inr (.inl 1000004)), some (.inr (.inl 0)), some (.inr (.inl 30)), some (.inr (.inl 47)), some (.inl i), o5, o6], [.inl (i + 1), .inr (.inl 1000004), .inr (.inl 0)], n, D, s, p, c)) rfl ?_
        refine tt_stat (j := 4) (i := (i + 1)) rfl hs (by omega) ?_
        show tt Zi 12 0 (355, [some (.inr (.inl 1000004)), some (.inr (.inl 0)), some (.inr (.inl 30)), some (.inr (.inl 47)), some (.inl i), o5, o6], [.inl ((xs ((i + 1)).toNat)), .inr (.inl 0)], n, D, s, p, c) _
        have b86 := hxs ((i + 1)).toNat
        refine tt_k 4 (S' := (360, [some (.inr (.inl 1000004)), some (.inr (.inl 0)), some (.inr (.inl 30)), some (.inr (.inl 47)), some (.inl i), o5, o6], [.inl (i + 2), .inr (.inl 1000004), .inl ((xs ((i + 1)).toNat)), .inr (.inl 0)], n, D, s, p, c)) rfl ?_
        refine tt_stat (j := 4) (i := (i + 2)) rfl hs (by omega) ?_
        show tt Zi 12 0 (361, [some (.inr (.inl 1000004)), some (.inr (.inl 0)), some (.inr (.inl 30)), some (.inr (.inl 47)), some (.inl i), o5, o6], [.inl ((xs ((i + 2)).toNat)), .inl ((xs ((i + 1)).toNat)), .inr (.inl 0)], n, D, s, p, c) _
        have b87 := hxs ((i + 2)).toNat
        refine tt_k 4 (S' := (366, [some (.inr (.inl 1000004)), some (.inr (.inl 0)), some (.inr (.inl 30)), some (.inr (.inl 47)), some (.inl i), o5, o6], [.inl (i + 3), .inr (.inl 1000004), .inl ((xs ((i + 2)).toNat)), .inl ((xs ((i + 1)).toNat)), .inr (.inl 0)], n, D, s, p, c)) rfl ?_
        refine tt_stat (j := 4) (i := (i + 3)) rfl hs (by omega) ?_
        show tt Zi 12 0 (367, [some (.inr (.inl 1000004)), some (.inr (.inl 0)), some (.inr (.inl 30)), some (.inr (.inl 47)), some (.inl i), o5, o6], [.inl ((xs ((i + 3)).toNat)), .inl ((xs ((i + 2)).toNat)), .inl ((xs ((i + 1)).toNat)), .inr (.inl 0)], n, D, s, p, c) _
        have b88 := hxs ((i + 3)).toNat
        refine tt_k 4 (S' := (372, [some (.inr (.inl 1000004)), some (.inr (.inl 0)), some (.inr (.inl 30)), some (.inr (.inl 47)), some (.inl i), o5, o6], [.inl (i + 4), .inr (.inl 1000004), .inl ((xs ((i + 3)).toNat)), .inl ((xs ((i + 2)).toNat)), .inl ((xs ((i + 1)).toNat)), .inr (.inl 0)], n, D, s, p, c)) rfl ?_
        refine tt_stat (j := 4) (i := (i + 4)) rfl hs (by omega) ?_
        show tt Zi 12 0 (373, [some (.inr (.inl 1000004)), some (.inr (.inl 0)), some (.inr (.inl 30)), some (.inr (.inl 47)), some (.inl i), o5, o6], [.inl ((xs ((i + 4)).toNat)), .inl ((xs ((i + 3)).toNat)), .inl ((xs ((i + 2)).toNat)), .inl ((xs ((i + 1)).toNat)), .inr (.inl 0)], n, D, s, p, c) _
        have b89 := hxs ((i + 4)).toNat
        refine tt_k 4 (S' := (378, [some (.inr (.inl 1000004)), some (.inr (.inl 0)), some (.inr (.inl 30)), some (.inr (.inl 47)), some (.inl i), o5, o6], [.inl (i + 5), .inr (.inl 1000004), .inl ((xs ((i + 4)).toNat)), .inl ((xs ((i + 3)).toNat)), .inl ((xs ((i + 2)).toNat)), .inl ((xs ((i + 1)).toNat)), .inr (.inl 0)], n, D, s, p, c)) rfl ?_
        refine tt_stat (j := 4) (i := (i + 5)) rfl hs (by omega) ?_
        show tt Zi 12 0 (379, [some (.inr (.inl 1000004)), some (.inr (.inl 0)), some (.inr (.inl 30)), some (.inr (.inl 47)), some (.inl i), o5, o6], [.inl ((xs ((i + 5)).toNat)), .inl ((xs ((i + 4)).toNat)), .inl ((xs ((i + 3)).toNat)), .inl ((xs ((i + 2)).toNat)), .inl ((xs ((i + 1)).toNat)), .inr (.inl 0)], n, D, s, p, c) _
        have b90 := hxs ((i + 5)).toNat
        refine tt_cl (by omega) rfl (h_measures (Zi := Zi) (q := q) (n := n) (D := D) (s := s) (p := p) (c := c) (by omega) hz (by omega) hD hS hC (wp_rg hW) ((xs ((i + 1)).toNat)) ((xs ((i + 2)).toNat)) ((xs ((i + 3)).toNat)) ((xs ((i + 4)).toNat)) ((xs ((i + 5)).toNat)) (by omega) (by omega) (by omega) (by omega) (by omega)) ?_
        rintro _ ⟨n91, D92, s93, p94, c95⟩ ⟨r97, rfl, b98, hY96, k99, k100, k101⟩
        have hS93 : bS s93 := hY96.1
        have hC95 : bC D92 c95 := hY96.2.1
        have hW94 : wp _ _ n91 D92 p94 s93 := hY96.2.2.1
        have FKc : fk p c n91 p94 c95 [3] := hY96.2.2.2.1
        have FFc : fr s s93 [800, 801, 802, 803, 804, 805, 806, 807, 808, 809, 902, 1705, 1706, 2001, 2002, 2003, 2004, 2005, 2006, 2106, 2107, 2108, 2109, 2110, 2111, 2112, 2113, 2114, 2115, 2116, 2500, 2501, 2502, 2503, 2700, 2701, 2702, 2703] := hY96.2.2.2.2
        replace k99 : meP r97 ((xs ((i + 1)).toNat)) ((xs ((i + 2)).toNat)) ((xs ((i + 3)).toNat)) ((xs ((i + 4)).toNat)) ((xs ((i + 5)).toNat)) (s 103) := k99
        replace k100 : r97 = 0 → (c95 3 0 = ((xs ((i + 1)).toNat)) ∧ c95 3 1 = ((xs ((i + 2)).toNat)) ∧ c95 3 2 = ((xs ((i + 3)).toNat)) ∧ c95 3 3 = ((xs ((i + 4)).toNat)) ∧ c95 3 4 = ((xs ((i + 5)).toNat))) := k100
        replace k101 : r97 ≠ 0 → fk p c n91 p94 c95 [] := k101
        show tt Zi 12 0 (382, [some (.inr (.inl 1000004)), some (.inr (.inl 0)), some (.inr (.inl 30)), some (.inr (.inl 47)), some (.inl i), o5, o6], [.inl r97], n91, D92, s93, p94, c95) _
        have tc100 : s93 100 = (s 100) := hW94.gz 100 rfl
        have tc101 : s93 101 = (s 101) := hW94.gz 101 rfl
        have tc102 : s93 102 = (s 102) := hW94.gz 102 rfl
        have tc103 : s93 103 = (s 103) := hW94.gz 103 rfl
        have tc3001 : s93 3001 = (s 3001) := hW94.gz 3001 rfl
        have tc3002 : s93 3002 = (s 3002) := hW94.gz 3002 rfl
        have tc3003 : s93 3003 = (s 3003) := hW94.gz 3003 rfl
        have tc3004 : s93 3004 = (s 3004) := hW94.gz 3004 rfl
        refine tt_k 6 (S' := (390, [some (.inr (.inl 1000004)), some (.inr (.inl 0)), some (.inr (.inl 30)), some (.inr (.inl 47)), some (.inl i), some (.inl r97), o6], [.inl (i + 1), .inr (.inl 1000004), .inr (.inl 30)], n91, D92, s93, p94, c95)) rfl ?_
        refine tt_stat (j := 4) (i := (i + 1)) rfl hs (by omega) ?_
        show tt Zi 12 0 (391, [some (.inr (.inl 1000004)), some (.inr (.inl 0)), some (.inr (.inl 30)), some (.inr (.inl 47)), some (.inl i), some (.inl r97), o6], [.inl ((xs ((i + 1)).toNat)), .inr (.inl 30)], n91, D92, s93, p94, c95) _
        refine tt_k 4 (S' := (396, [some (.inr (.inl 1000004)), some (.inr (.inl 0)), some (.inr (.inl 30)), some (.inr (.inl 47)), some (.inl i), some (.inl r97), o6], [.inl (i + 2), .inr (.inl 1000004), .inl ((xs ((i + 1)).toNat)), .inr (.inl 30)], n91, D92, s93, p94, c95)) rfl ?_
        refine tt_stat (j := 4) (i := (i + 2)) rfl hs (by omega) ?_
        show tt Zi 12 0 (397, [some (.inr (.inl 1000004)), some (.inr (.inl 0)), some (.inr (.inl 30)), some (.inr (.inl 47)), some (.inl i), some (.inl r97), o6], [.inl ((xs ((i + 2)).toNat)), .inl ((xs ((i + 1)).toNat)), .inr (.inl 30)], n91, D92, s93, p94, c95) _
        refine tt_k 4 (S' := (402, [some (.inr (.inl 1000004)), some (.inr (.inl 0)), some (.inr (.inl 30)), some (.inr (.inl 47)), some (.inl i), some (.inl r97), o6], [.inl (i + 3), .inr (.inl 1000004), .inl ((xs ((i + 2)).toNat)), .inl ((xs ((i + 1)).toNat)), .inr (.inl 30)], n91, D92, s93, p94, c95)) rfl ?_
        refine tt_stat (j := 4) (i := (i + 3)) rfl hs (by omega) ?_
        show tt Zi 12 0 (403, [some (.inr (.inl 1000004)), some (.inr (.inl 0)), some (.inr (.inl 30)), some (.inr (.inl 47)), some (.inl i), some (.inl r97), o6], [.inl ((xs ((i + 3)).toNat)), .inl ((xs ((i + 2)).toNat)), .inl ((xs ((i + 1)).toNat)), .inr (.inl 30)], n91, D92, s93, p94, c95) _
        refine tt_k 4 (S' := (408, [some (.inr (.inl 1000004)), some (.inr (.inl 0)), some (.inr (.inl 30)), some (.inr (.inl 47)), some (.inl i), some (.inl r97), o6], [.inl (i + 4), .inr (.inl 1000004), .inl ((xs ((i + 3)).toNat)), .inl ((xs ((i + 2)).toNat)), .inl ((xs ((i + 1)).toNat)), .inr (.inl 30)], n91, D92, s93, p94, c95)) rfl ?_
        refine tt_stat (j := 4) (i := (i + 4)) rfl hs (by omega) ?_
        show tt Zi 12 0 (409, [some (.inr (.inl 1000004)), some (.inr (.inl 0)), some (.inr (.inl 30)), some (.inr (.inl 47)), some (.inl i), some (.inl r97), o6], [.inl ((xs ((i + 4)).toNat)), .inl ((xs ((i + 3)).toNat)), .inl ((xs ((i + 2)).toNat)), .inl ((xs ((i + 1)).toNat)), .inr (.inl 30)], n91, D92, s93, p94, c95) _
        refine tt_k 4 (S' := (414, [some (.inr (.inl 1000004)), some (.inr (.inl 0)), some (.inr (.inl 30)), some (.inr (.inl 47)), some (.inl i), some (.inl r97), o6], [.inl (i + 5), .inr (.inl 1000004), .inl ((xs ((i + 4)).toNat)), .inl ((xs ((i + 3)).toNat)), .inl ((xs ((i + 2)).toNat)), .inl ((xs ((i + 1)).toNat)), .inr (.inl 30)], n91, D92, s93, p94, c95)) rfl ?_
        refine tt_stat (j := 4) (i := (i + 5)) rfl hs (by omega) ?_
        show tt Zi 12 0 (415, [some (.inr (.inl 1000004)), some (.inr (.inl 0)), some (.inr (.inl 30)), some (.inr (.inl 47)), some (.inl i), some (.inl r97), o6], [.inl ((xs ((i + 5)).toNat)), .inl ((xs ((i + 4)).toNat)), .inl ((xs ((i + 3)).toNat)), .inl ((xs ((i + 2)).toNat)), .inl ((xs ((i + 1)).toNat)), .inr (.inl 30)], n91, D92, s93, p94, c95) _
        refine tt_cl (by omega) rfl (k_measures3 (Zi := Zi) (D := D92) (s := s93) (p := p94) (c := c95) (by omega) hS93 hC95 ((xs ((i + 1)).toNat)) ((xs ((i + 2)).toNat)) ((xs ((i + 3)).toNat)) ((xs ((i + 4)).toNat)) ((xs ((i + 5)).toNat)) (by omega) (by omega) (by omega) (by omega) (by omega)) ?_
        rintro _ _ ⟨s102, c103, rfl, rfl, hS102, hC103, f104, g105, k106, k107⟩
        have hW108 := wp_rf f104 (by decide) hW94
        show tt Zi 12 0 (418, [some (.inr (.inl 1000004)), some (.inr (.inl 0)), some (.inr (.inl 30)), some (.inr (.inl 47)), some (.inl i), some (.inl r97), o6], [], n91, D92, s102, p94, c103) _
        have te100 : s102 100 = (s93 100) := f104 100 (by decide)
        have te101 : s102 101 = (s93 101) := f104 101 (by decide)
        have te102 : s102 102 = (s93 102) := f104 102 (by decide)
        have te103 : s102 103 = (s93 103) := f104 103 (by decide)
        have te3001 : s102 3001 = (s93 3001) := f104 3001 (by decide)
        have te3002 : s102 3002 = (s93 3002) := f104 3002 (by decide)
        have te3003 : s102 3003 = (s93 3003) := f104 3003 (by decide)
        have te3004 : s102 3004 = (s93 3004) := f104 3004 (by decide)
        have ht2 : tie s102 := ⟨te100.trans (tc100.trans (ht.1.trans (tc3001.symm.trans te3001.symm))), te101.trans (tc101.trans (ht.2.1.trans (tc3002.symm.trans te3002.symm))), te102.trans (tc102.trans (ht.2.2.1.trans (tc3003.symm.trans te3003.symm))), te103.trans (tc103.trans (ht.2.2.2.trans (tc3004.symm.trans te3004.symm)))⟩
        have FKr := fk_rc FKc.1 g105 (by decide)
        have tS2 : tiS s102 p94 c103 := tiS_fk (tiS_fk ⟨E, hcE, hrE⟩ FKc (by decide) tc100 tc101 tc102) FKr (by decide) te100 te101 te102
        have q1 : tqC c103 := tqC_me hQ.1 FKc k99 k100 k101 g105 (tc3004.trans ht.2.2.2.symm) k107
        have q2 : tqW s102 := tqW_f (tqW_f hQ.2.1 FFc (by decide)) f104 (by decide)
        have q3 : tqP s102 p94 c103 := tqP_f hQ.2.2.1 FKc FKr (by decide) FFc (by decide) f104 (by decide)
        have q4 : tqT s102 := tqT_f (tqT_f hQ.2.2.2 FFc (by decide)) f104 (by decide)
        have tQ2 : tiQ s102 p94 c103 := ⟨q1, q2, q3, q4⟩
        clear tc100 tc101 tc102 tc103 tc3001 tc3002 tc3003 tc3004 te100 te101 te102 te103 te3001 te3002 te3003 te3004
        refine tt_k 3 (S' := (23, [some (.inr (.inl 1000004)), some (.inr (.inl 0)), some (.inr (.inl 30)), some (.inr (.inl 47)), some (.inl (i + 9)), some (.inl r97), o6], [], n91, D92, s102, p94, c103)) rfl ?_
        exact ih (q + 1) (i + 9) (some (.inl r97)) (o6) (n91, D92, s102, p94, c103) ⟨hS102, hC103, (wp_rg hW108), FKr.1⟩ ht2 tS2 tQ2 (by omega) (by omega) (by omega) (by omega)
      by_cases h109 : (mi_and (xs (i).toNat) 15) = 4
      · have h110 := h109
        refine tt_tsw (x := (mi_and (xs (i).toNat) 15)) (off := 381) rfl (by omega) (by omega) (by rw [h109]; rfl) rfl ?_
        show tt Zi 12 0 (421, [some (.inr (.inl 1000004)), some (.inr (.inl 0)), some (.inr (.inl 30)), some (.inr (.inl 47)), some (.inl i), o5, o6], [], n, D, s, p, c) _
        refine tt_k 5 (S' := (427, [some (.inr (.inl 1000004)), some (.inr (.inl 0)), some (.inr (.inl 30)), some (.inr (.inl 47)), some (.inl i), o5, o6], [.inl (i + 1), .inr (.inl 1000004), .inr (.inl 0)], n, D, s, p, c)) rfl ?_
        refine tt_stat (j := 4) (i := (i + 1)) rfl hs (by omega) ?_
        show tt Zi 12 0 (428, [some (.inr (.inl 1000004)), some (.inr (.inl 0)), some (.inr (.inl 30)), some (.inr (.inl 47)), some (.inl i), o5, o6], [.inl ((xs ((i + 1)).toNat)), .inr (.inl 0)], n, D, s, p, c) _
        have b111 := hxs ((i + 1)).toNat
        refine tt_k 1 (S' := (429, [some (.inr (.inl 1000004)), some (.inr (.inl 0)), some (.inr (.inl 30)), some (.inr (.inl 47)), some (.inl i), o5, o6], [.inr (.inl 47), .inl ((xs ((i + 1)).toNat)), .inr (.inl 0)], n, D, s, p, c)) rfl ?_
        refine tt_cl (by omega) rfl (h_pack (Zi := Zi) (q := q) (n := n) (D := D) (s := s) (p := p) (c := c) (by omega) hz (by omega) hD hS hC (wp_rg hW) E ((xs ((i + 1)).toNat)) (by omega) hcE hQ.2.1) ?_
        rintro _ ⟨n112, D113, s114, p115, c116⟩ ⟨r118, rfl, b119, hY117, k120, k121, k122, k123, k124, k125, k126, k127⟩
        have hS114 : bS s114 := hY117.1
        have hC116 : bC D113 c116 := hY117.2.1
        have hW115 : wp _ _ n112 D113 p115 s114 := hY117.2.2.1
        have FKc : fk p c n112 p115 c116 [47, 400, 900, 901, 1203, 1204] := hY117.2.2.2.1
        have FFc : fr s s114 [401, 800, 801, 802, 803, 804, 805, 806, 807, 808, 809, 902, 1206, 1207, 1208, 1209, 1210, 1211, 1212, 1213, 1214, 1215, 1216, 1601, 1602, 1705, 1706, 2001, 2002, 2003, 2004, 2005, 2006, 2106, 2107, 2108, 2109, 2110, 2111, 2112, 2113, 2114, 2115, 2116, 2500, 2501, 2502, 2503, 2700, 2701, 2702, 2703] := hY117.2.2.2.2
        replace k120 : r118 = 0 → ((VM (c 3 0) (c 3 1) (c 3 2) (c 3 3) (c 3 4) (s 103) ((xs ((i + 1)).toNat))) ∧ AB E (s 100) (s 101) (s 102) (zMo (c 3 0) (s 103))) := k120
        replace k121 : r118 ≠ 0 → ¬ ((VM (c 3 0) (c 3 1) (c 3 2) (c 3 3) (c 3 4) (s 103) ((xs ((i + 1)).toNat))) ∧ AB E (s 100) (s 101) (s 102) (zMo (c 3 0) (s 103))) := k121
        replace k122 : r118 = 0 → c116 47 0 = s114 401 := k122
        replace k123 : r118 = 0 → wrl (PK (c 3 0) (c 3 1) (c 3 2) (c 3 3) (c 3 4) (s 100) (s 101) (s 102) (s 103) ((xs ((i + 1)).toNat)) E) (s114 401) 0 8 (c116 (p115 400)) := k123
        replace k124 : r118 = 0 → s114 1601 = 0 ∧ s114 1602 = 8 := k124
        replace k125 : r118 ≠ 0 → s114 401 = s 401 ∧ s114 1601 = s 1601 ∧ s114 1602 = s 1602 := k125
        replace k126 : r118 = 0 ∨ r118 = 1 := k126
        replace k127 : r118 ≠ 0 → fk p c n112 p115 c116 [] := k127
        show tt Zi 12 0 (432, [some (.inr (.inl 1000004)), some (.inr (.inl 0)), some (.inr (.inl 30)), some (.inr (.inl 47)), some (.inl i), o5, o6], [.inl r118], n112, D113, s114, p115, c116) _
        have tc100 : s114 100 = (s 100) := hW115.gz 100 rfl
        have tc101 : s114 101 = (s 101) := hW115.gz 101 rfl
        have tc102 : s114 102 = (s 102) := hW115.gz 102 rfl
        have tc103 : s114 103 = (s 103) := hW115.gz 103 rfl
        have tc3001 : s114 3001 = (s 3001) := hW115.gz 3001 rfl
        have tc3002 : s114 3002 = (s 3002) := hW115.gz 3002 rfl
        have tc3003 : s114 3003 = (s 3003) := hW115.gz 3003 rfl
        have tc3004 : s114 3004 = (s 3004) := hW115.gz 3004 rfl
        refine tt_k 6 (S' := (440, [some (.inr (.inl 1000004)), some (.inr (.inl 0)), some (.inr (.inl 30)), some (.inr (.inl 47)), some (.inl i), some (.inl r118), o6], [.inl (i + 1), .inr (.inl 1000004), .inr (.inl 30)], n112, D113, s114, p115, c116)) rfl ?_
        refine tt_stat (j := 4) (i := (i + 1)) rfl hs (by omega) ?_
        show tt Zi 12 0 (441, [some (.inr (.inl 1000004)), some (.inr (.inl 0)), some (.inr (.inl 30)), some (.inr (.inl 47)), some (.inl i), some (.inl r118), o6], [.inl ((xs ((i + 1)).toNat)), .inr (.inl 30)], n112, D113, s114, p115, c116) _
        have eq3001 : (s114 3001) = s 100 := tc3001.trans ht.1.symm
        have eq3002 : (s114 3002) = s 101 := tc3002.trans ht.2.1.symm
        have eq3003 : (s114 3003) = s 102 := tc3003.trans ht.2.2.1.symm
        have eq3004 : (s114 3004) = s 103 := tc3004.trans ht.2.2.2.symm
        have hcr : cr E (s114 3001) (s114 3002) (s114 3003) (c116 31) := by rw [eq3001, eq3002, eq3003, fk_c (k := 31) FKc (by decide)]; exact hrE
        refine tt_cl (by omega) rfl (x_pack (Zi := Zi) (D := D113) (s := s114) (p := p115) (c := c116) (by omega) hS114 hC116 E ((xs ((i + 1)).toNat)) (by omega) hcr) ?_
        rintro _ _ ⟨s128, c129, r130, rfl, rfl, hS128, hC129, f131, g132, b133, k134⟩
        have hW135 := wp_rf f131 (by decide) hW115
        show tt Zi 12 0 (444, [some (.inr (.inl 1000004)), some (.inr (.inl 0)), some (.inr (.inl 30)), some (.inr (.inl 47)), some (.inl i), some (.inl r118), o6], [.inl r130], n112, D113, s128, p115, c129) _
        have te100 : s128 100 = (s114 100) := f131 100 (by decide)
        have te101 : s128 101 = (s114 101) := f131 101 (by decide)
        have te102 : s128 102 = (s114 102) := f131 102 (by decide)
        have te103 : s128 103 = (s114 103) := f131 103 (by decide)
        have te3001 : s128 3001 = (s114 3001) := f131 3001 (by decide)
        have te3002 : s128 3002 = (s114 3002) := f131 3002 (by decide)
        have te3003 : s128 3003 = (s114 3003) := f131 3003 (by decide)
        have te3004 : s128 3004 = (s114 3004) := f131 3004 (by decide)
        have ht2 : tie s128 := ⟨te100.trans (tc100.trans (ht.1.trans (tc3001.symm.trans te3001.symm))), te101.trans (tc101.trans (ht.2.1.trans (tc3002.symm.trans te3002.symm))), te102.trans (tc102.trans (ht.2.2.1.trans (tc3003.symm.trans te3003.symm))), te103.trans (tc103.trans (ht.2.2.2.trans (tc3004.symm.trans te3004.symm)))⟩
        have FKr := fk_rc FKc.1 g132 (by decide)
        have tS2 : tiS s128 p115 c129 := tiS_fk (tiS_fk ⟨E, hcE, hrE⟩ FKc (by decide) tc100 tc101 tc102) FKr (by decide) te100 te101 te102
        have q1 : tqC c129 := tqC_f hQ.1 FKc FKr (by decide)
        have q2 : tqW s128 := tqW_f (show tqW s114 from if e0 : r118 = 0 then k124 e0 else ⟨(k125 e0).2.1.trans hQ.2.1.1, (k125 e0).2.2.trans hQ.2.1.2⟩) f131 (by decide)
        have er0 : c116 32 0 = c 3 0 := by rw [fk_c (k := 32) FKc (by decide)]; exact (hQ.1 0 (by decide)).symm
        have er1 : c116 32 1 = c 3 1 := by rw [fk_c (k := 32) FKc (by decide)]; exact (hQ.1 1 (by decide)).symm
        have er2 : c116 32 2 = c 3 2 := by rw [fk_c (k := 32) FKc (by decide)]; exact (hQ.1 2 (by decide)).symm
        have er3 : c116 32 3 = c 3 3 := by rw [fk_c (k := 32) FKc (by decide)]; exact (hQ.1 3 (by decide)).symm
        have er4 : c116 32 4 = c 3 4 := by rw [fk_c (k := 32) FKc (by decide)]; exact (hQ.1 4 (by decide)).symm
        have kp := k134
        rw [er0, er1, er2, er3, er4, eq3001, eq3002, eq3003, eq3004] at kp
        have hqp := pk_q k126 k120 k121 k122 k123 kp
        rw [← show c129 47 = c116 47 from g132 47 (by decide)] at hqp
        have q3 : tqP s128 p115 c129 := tqP_pk hQ.2.2.1 FKc FKr FFc (by decide) k120 k121 k123 k125 k127 kp f131 (by decide)
        clear kp k134 k120 k121 k122 k123 k124 k125 k126 k127 eq3001 eq3002 eq3003 eq3004 er0 er1 er2 er3 er4
        have q4 : tqT s128 := tqT_f (tqT_f hQ.2.2.2 FFc (by decide)) f131 (by decide)
        have tQ2 : tiQ s128 p115 c129 := ⟨q1, q2, q3, q4⟩
        clear tc100 tc101 tc102 tc103 tc3001 tc3002 tc3003 tc3004 te100 te101 te102 te103 te3001 te3002 te3003 te3004
        refine tt_k 4 (S' := (23, [some (.inr (.inl 1000004)), some (.inr (.inl 0)), some (.inr (.inl 30)), some (.inr (.inl 47)), some (.inl (i + 9)), some (.inl r118), some (.inl r130)], [], n112, D113, s128, p115, c129)) rfl ?_
        exact ih (q + 1) (i + 9) (some (.inl r118)) (some (.inl r130)) (n112, D113, s128, p115, c129) ⟨hS128, hC129, (wp_rg hW135), FKr.1⟩ ht2 tS2 tQ2 (by omega) (by omega) (by omega) (by omega)
      by_cases h136 : (mi_and (xs (i).toNat) 15) = 5
      · have h137 := h136
        refine tt_tsw (x := (mi_and (xs (i).toNat) 15)) (off := 409) rfl (by omega) (by omega) (by rw [h136]; rfl) rfl ?_
        show tt Zi 12 0 (449, [some (.inr (.inl 1000004)), some (.inr (.inl 0)), some (.inr (.inl 30)), some (.inr (.inl 47)), some (.inl i), o5, o6], [], n, D, s, p, c) _
        refine tt_k 1 (S' := (450, [some (.inr (.inl 1000004)), some (.inr (.inl 0)), some (.inr (.inl 30)), some (.inr (.inl 47)), some (.inl i), o5, o6], [.inr (.inl 0)], n, D, s, p, c)) rfl ?_
        refine tt_cl (by omega) rfl (e_size (Zi := Zi) (q := q) (n := n) (D := D) (s := s) (p := p) (c := c) (by omega) hz (by omega) hD hS hC (wp_rg hW) ) ?_
        rintro _ ⟨n138, D139, s140, p141, c142⟩ ⟨r144, rfl, b145, hY143, k146⟩
        have hS140 : bS s140 := hY143.1
        have hC142 : bC D139 c142 := hY143.2.1
        have hW141 : wp _ _ n138 D139 p141 s140 := hY143.2.2.1
        have FKc : fk p c n138 p141 c142 [] := hY143.2.2.2.1
        have FFc : fr s s140 [] := hY143.2.2.2.2
        replace k146 : r144 = s 401 := k146
        show tt Zi 12 0 (453, [some (.inr (.inl 1000004)), some (.inr (.inl 0)), some (.inr (.inl 30)), some (.inr (.inl 47)), some (.inl i), o5, o6], [.inl r144], n138, D139, s140, p141, c142) _
        have tc100 : s140 100 = (s 100) := hW141.gz 100 rfl
        have tc101 : s140 101 = (s 101) := hW141.gz 101 rfl
        have tc102 : s140 102 = (s 102) := hW141.gz 102 rfl
        have tc103 : s140 103 = (s 103) := hW141.gz 103 rfl
        have tc3001 : s140 3001 = (s 3001) := hW141.gz 3001 rfl
        have tc3002 : s140 3002 = (s 3002) := hW141.gz 3002 rfl
        have tc3003 : s140 3003 = (s 3003) := hW141.gz 3003 rfl
        have tc3004 : s140 3004 = (s 3004) := hW141.gz 3004 rfl
        refine tt_k 1 (S' := (454, [some (.inr (.inl 1000004)), some (.inr (.inl 0)), some (.inr (.inl 30)), some (.inr (.inl 47)), some (.inl i), o5, o6], [.inr (.inl 30), .inl r144], n138, D139, s140, p141, c142)) rfl ?_
        refine tt_cl (by omega) rfl (k_size (Zi := Zi) (D := D139) (s := s140) (p := p141) (c := c142) (by omega) hS140 hC142 ) ?_
        rintro _ _ ⟨s147, r148, rfl, rfl, hS147, f149, b150, k151, k152⟩
        have hW153 := wp_rf f149 (by decide) hW141
        show tt Zi 12 0 (457, [some (.inr (.inl 1000004)), some (.inr (.inl 0)), some (.inr (.inl 30)), some (.inr (.inl 47)), some (.inl i), o5, o6], [.inl r148, .inl r144], n138, D139, s147, p141, c142) _
        have te100 : s147 100 = (s140 100) := f149 100 (by decide)
        have te101 : s147 101 = (s140 101) := f149 101 (by decide)
        have te102 : s147 102 = (s140 102) := f149 102 (by decide)
        have te103 : s147 103 = (s140 103) := f149 103 (by decide)
        have te3001 : s147 3001 = (s140 3001) := f149 3001 (by decide)
        have te3002 : s147 3002 = (s140 3002) := f149 3002 (by decide)
        have te3003 : s147 3003 = (s140 3003) := f149 3003 (by decide)
        have te3004 : s147 3004 = (s140 3004) := f149 3004 (by decide)
        have ht2 : tie s147 := ⟨te100.trans (tc100.trans (ht.1.trans (tc3001.symm.trans te3001.symm))), te101.trans (tc101.trans (ht.2.1.trans (tc3002.symm.trans te3002.symm))), te102.trans (tc102.trans (ht.2.2.1.trans (tc3003.symm.trans te3003.symm))), te103.trans (tc103.trans (ht.2.2.2.trans (tc3004.symm.trans te3004.symm)))⟩
        have FKr := fk_rf (c := c142) (K := []) FKc.1
        have tS2 : tiS s147 p141 c142 := tiS_fk (tiS_fk ⟨E, hcE, hrE⟩ FKc (by decide) tc100 tc101 tc102) FKr (by decide) te100 te101 te102
        have q1 : tqC c142 := tqC_f hQ.1 FKc FKr (by decide)
        have q2 : tqW s147 := tqW_f (tqW_f hQ.2.1 FFc (by decide)) f149 (by decide)
        have q3 : tqP s147 p141 c142 := tqP_f hQ.2.2.1 FKc FKr (by decide) FFc (by decide) f149 (by decide)
        have q4 : tqT s147 := tqT_f (tqT_f hQ.2.2.2 FFc (by decide)) f149 (by decide)
        have hqs : r144 = r148 := sz_q hQ.2.2.1 FFc (by decide) k146 k151
        have tQ2 : tiQ s147 p141 c142 := ⟨q1, q2, q3, q4⟩
        clear tc100 tc101 tc102 tc103 tc3001 tc3002 tc3003 tc3004 te100 te101 te102 te103 te3001 te3002 te3003 te3004
        refine tb_eq (x := r144) (y := r148) rfl rfl (by omega) (fun h154 => ?_) (fun h154 => ?_)
        · show tt Zi 12 0 (793, [some (.inr (.inl 1000004)), some (.inr (.inl 0)), some (.inr (.inl 30)), some (.inr (.inl 47)), some (.inl i), o5, o6], [], n138, D139, s147, p141, c142) _
          refine tt_k 2 (S' := (23, [some (.inr (.inl 1000004)), some (.inr (.inl 0)), some (.inr (.inl 30)), some (.inr (.inl 47)), some (.inl (i + 9)), o5, o6], [], n138, D139, s147, p141, c142)) rfl ?_
          exact ih (q + 1) (i + 9) (o5) (o6) (n138, D139, s147, p141, c142) ⟨hS147, hC142, (wp_rg hW153), FKr.1⟩ ht2 tS2 tQ2 (by omega) (by omega) (by omega) (by omega)
        · show tt Zi 12 0 (460, [some (.inr (.inl 1000004)), some (.inr (.inl 0)), some (.inr (.inl 30)), some (.inr (.inl 47)), some (.inl i), o5, o6], [], n138, D139, s147, p141, c142) _
          refine tt_k 1 (S' := (461, [some (.inr (.inl 1000004)), some (.inr (.inl 0)), some (.inr (.inl 30)), some (.inr (.inl 47)), some (.inl i), o5, o6], [.inl 0], n138, D139, s147, p141, c142)) rfl ?_
          exfalso
          omega
      by_cases h155 : (mi_and (xs (i).toNat) 15) = 6
      · have h156 := h155
        refine tt_tsw (x := (mi_and (xs (i).toNat) 15)) (off := 422) rfl (by omega) (by omega) (by rw [h155]; rfl) rfl ?_
        show tt Zi 12 0 (462, [some (.inr (.inl 1000004)), some (.inr (.inl 0)), some (.inr (.inl 30)), some (.inr (.inl 47)), some (.inl i), o5, o6], [], n, D, s, p, c) _
        refine tt_k 5 (S' := (468, [some (.inr (.inl 1000004)), some (.inr (.inl 0)), some (.inr (.inl 30)), some (.inr (.inl 47)), some (.inl i), o5, o6], [.inl (i + 1), .inr (.inl 1000004), .inr (.inl 0)], n, D, s, p, c)) rfl ?_
        refine tt_stat (j := 4) (i := (i + 1)) rfl hs (by omega) ?_
        show tt Zi 12 0 (469, [some (.inr (.inl 1000004)), some (.inr (.inl 0)), some (.inr (.inl 30)), some (.inr (.inl 47)), some (.inl i), o5, o6], [.inl ((xs ((i + 1)).toNat)), .inr (.inl 0)], n, D, s, p, c) _
        have b157 := hxs ((i + 1)).toNat
        refine tt_k 1 (S' := (470, [some (.inr (.inl 1000004)), some (.inr (.inl 0)), some (.inr (.inl 30)), some (.inr (.inl 47)), some (.inl i), o5, o6], [.inr (.inl 47), .inl ((xs ((i + 1)).toNat)), .inr (.inl 0)], n, D, s, p, c)) rfl ?_
        refine tt_cl (by omega) rfl (h_out (Zi := Zi) (q := q) (n := n) (D := D) (s := s) (p := p) (c := c) (by omega) hz (by omega) hD hS hC (wp_rg hW) ((xs ((i + 1)).toNat)) (by omega)) ?_
        rintro _ ⟨n158, D159, s160, p161, c162⟩ ⟨r164, rfl, b165, hY163, k166, k167⟩
        have hS160 : bS s160 := hY163.1
        have hC162 : bC D159 c162 := hY163.2.1
        have hW161 : wp _ _ n158 D159 p161 s160 := hY163.2.2.1
        have FKc : fk p c n158 p161 c162 [47] := hY163.2.2.2.1
        have FFc : fr s s160 [800, 801, 802, 803, 804, 805, 806, 807, 808, 809, 902, 1705, 1706, 2001, 2002, 2003, 2004, 2005, 2006, 2106, 2107, 2108, 2109, 2110, 2111, 2112, 2113, 2114, 2115, 2116, 2500, 2501, 2502, 2503, 2700, 2701, 2702, 2703] := hY163.2.2.2.2
        replace k166 : r164 = 0 → (0 ≤ ((xs ((i + 1)).toNat)) ∧ ((xs ((i + 1)).toNat)) < s 401) ∧ c162 47 0 = mi_and (c (p 400) ((xs ((i + 1)).toNat)).toNat) 255 := k166
        replace k167 : r164 ≠ 0 → r164 = 1 ∧ ¬ (0 ≤ ((xs ((i + 1)).toNat)) ∧ ((xs ((i + 1)).toNat)) < s 401) := k167
        show tt Zi 12 0 (473, [some (.inr (.inl 1000004)), some (.inr (.inl 0)), some (.inr (.inl 30)), some (.inr (.inl 47)), some (.inl i), o5, o6], [.inl r164], n158, D159, s160, p161, c162) _
        have tc100 : s160 100 = (s 100) := hW161.gz 100 rfl
        have tc101 : s160 101 = (s 101) := hW161.gz 101 rfl
        have tc102 : s160 102 = (s 102) := hW161.gz 102 rfl
        have tc103 : s160 103 = (s 103) := hW161.gz 103 rfl
        have tc3001 : s160 3001 = (s 3001) := hW161.gz 3001 rfl
        have tc3002 : s160 3002 = (s 3002) := hW161.gz 3002 rfl
        have tc3003 : s160 3003 = (s 3003) := hW161.gz 3003 rfl
        have tc3004 : s160 3004 = (s 3004) := hW161.gz 3004 rfl
        refine tt_k 6 (S' := (481, [some (.inr (.inl 1000004)), some (.inr (.inl 0)), some (.inr (.inl 30)), some (.inr (.inl 47)), some (.inl i), some (.inl r164), o6], [.inl (i + 1), .inr (.inl 1000004), .inr (.inl 30)], n158, D159, s160, p161, c162)) rfl ?_
        refine tt_stat (j := 4) (i := (i + 1)) rfl hs (by omega) ?_
        show tt Zi 12 0 (482, [some (.inr (.inl 1000004)), some (.inr (.inl 0)), some (.inr (.inl 30)), some (.inr (.inl 47)), some (.inl i), some (.inl r164), o6], [.inl ((xs ((i + 1)).toNat)), .inr (.inl 30)], n158, D159, s160, p161, c162) _
        refine tt_cl (by omega) rfl (k_out3 (Zi := Zi) (D := D159) (s := s160) (p := p161) (c := c162) (by omega) hS160 hC162 ((xs ((i + 1)).toNat)) (by omega)) ?_
        rintro _ _ ⟨s168, r169, rfl, rfl, hS168, f170, b171, k172, k173⟩
        have hW174 := wp_rf f170 (by decide) hW161
        show tt Zi 12 0 (485, [some (.inr (.inl 1000004)), some (.inr (.inl 0)), some (.inr (.inl 30)), some (.inr (.inl 47)), some (.inl i), some (.inl r164), o6], [.inl r169], n158, D159, s168, p161, c162) _
        have te100 : s168 100 = (s160 100) := f170 100 (by decide)
        have te101 : s168 101 = (s160 101) := f170 101 (by decide)
        have te102 : s168 102 = (s160 102) := f170 102 (by decide)
        have te103 : s168 103 = (s160 103) := f170 103 (by decide)
        have te3001 : s168 3001 = (s160 3001) := f170 3001 (by decide)
        have te3002 : s168 3002 = (s160 3002) := f170 3002 (by decide)
        have te3003 : s168 3003 = (s160 3003) := f170 3003 (by decide)
        have te3004 : s168 3004 = (s160 3004) := f170 3004 (by decide)
        have ht2 : tie s168 := ⟨te100.trans (tc100.trans (ht.1.trans (tc3001.symm.trans te3001.symm))), te101.trans (tc101.trans (ht.2.1.trans (tc3002.symm.trans te3002.symm))), te102.trans (tc102.trans (ht.2.2.1.trans (tc3003.symm.trans te3003.symm))), te103.trans (tc103.trans (ht.2.2.2.trans (tc3004.symm.trans te3004.symm)))⟩
        have FKr := fk_rf (c := c162) (K := []) FKc.1
        have tS2 : tiS s168 p161 c162 := tiS_fk (tiS_fk ⟨E, hcE, hrE⟩ FKc (by decide) tc100 tc101 tc102) FKr (by decide) te100 te101 te102
        have q1 : tqC c162 := tqC_f hQ.1 FKc FKr (by decide)
        have q2 : tqW s168 := tqW_f (tqW_f hQ.2.1 FFc (by decide)) f170 (by decide)
        have q3 : tqP s168 p161 c162 := tqP_f hQ.2.2.1 FKc FKr (by decide) FFc (by decide) f170 (by decide)
        have q4 : tqT s168 := tqT_f (tqT_f hQ.2.2.2 FFc (by decide)) f170 (by decide)
        have hqo := ou_q hQ.2.2.1 FKc (by decide) FFc (by decide) k166 k167 k172 k173
        have tQ2 : tiQ s168 p161 c162 := ⟨q1, q2, q3, q4⟩
        clear tc100 tc101 tc102 tc103 tc3001 tc3002 tc3003 tc3004 te100 te101 te102 te103 te3001 te3002 te3003 te3004
        refine tt_k 4 (S' := (23, [some (.inr (.inl 1000004)), some (.inr (.inl 0)), some (.inr (.inl 30)), some (.inr (.inl 47)), some (.inl (i + 9)), some (.inl r164), some (.inl r169)], [], n158, D159, s168, p161, c162)) rfl ?_
        exact ih (q + 1) (i + 9) (some (.inl r164)) (some (.inl r169)) (n158, D159, s168, p161, c162) ⟨hS168, hC162, (wp_rg hW174), FKr.1⟩ ht2 tS2 tQ2 (by omega) (by omega) (by omega) (by omega)
      by_cases h175 : (mi_and (xs (i).toNat) 15) = 7
      · have h176 := h175
        refine tt_tsw (x := (mi_and (xs (i).toNat) 15)) (off := 450) rfl (by omega) (by omega) (by rw [h175]; rfl) rfl ?_
        show tt Zi 12 0 (490, [some (.inr (.inl 1000004)), some (.inr (.inl 0)), some (.inr (.inl 30)), some (.inr (.inl 47)), some (.inl i), o5, o6], [], n, D, s, p, c) _
        refine tt_k 5 (S' := (496, [some (.inr (.inl 1000004)), some (.inr (.inl 0)), some (.inr (.inl 30)), some (.inr (.inl 47)), some (.inl i), o5, o6], [.inl (i + 1), .inr (.inl 1000004), .inr (.inl 0)], n, D, s, p, c)) rfl ?_
        refine tt_stat (j := 4) (i := (i + 1)) rfl hs (by omega) ?_
        show tt Zi 12 0 (497, [some (.inr (.inl 1000004)), some (.inr (.inl 0)), some (.inr (.inl 30)), some (.inr (.inl 47)), some (.inl i), o5, o6], [.inl ((xs ((i + 1)).toNat)), .inr (.inl 0)], n, D, s, p, c) _
        have b177 := hxs ((i + 1)).toNat
        refine tt_k 4 (S' := (502, [some (.inr (.inl 1000004)), some (.inr (.inl 0)), some (.inr (.inl 30)), some (.inr (.inl 47)), some (.inl i), o5, o6], [.inl (i + 2), .inr (.inl 1000004), .inl ((xs ((i + 1)).toNat)), .inr (.inl 0)], n, D, s, p, c)) rfl ?_
        refine tt_stat (j := 4) (i := (i + 2)) rfl hs (by omega) ?_
        show tt Zi 12 0 (503, [some (.inr (.inl 1000004)), some (.inr (.inl 0)), some (.inr (.inl 30)), some (.inr (.inl 47)), some (.inl i), o5, o6], [.inl ((xs ((i + 2)).toNat)), .inl ((xs ((i + 1)).toNat)), .inr (.inl 0)], n, D, s, p, c) _
        have b178 := hxs ((i + 2)).toNat
        refine tt_k 4 (S' := (508, [some (.inr (.inl 1000004)), some (.inr (.inl 0)), some (.inr (.inl 30)), some (.inr (.inl 47)), some (.inl i), o5, o6], [.inl (i + 3), .inr (.inl 1000004), .inl ((xs ((i + 2)).toNat)), .inl ((xs ((i + 1)).toNat)), .inr (.inl 0)], n, D, s, p, c)) rfl ?_
        refine tt_stat (j := 4) (i := (i + 3)) rfl hs (by omega) ?_
        show tt Zi 12 0 (509, [some (.inr (.inl 1000004)), some (.inr (.inl 0)), some (.inr (.inl 30)), some (.inr (.inl 47)), some (.inl i), o5, o6], [.inl ((xs ((i + 3)).toNat)), .inl ((xs ((i + 2)).toNat)), .inl ((xs ((i + 1)).toNat)), .inr (.inl 0)], n, D, s, p, c) _
        have b179 := hxs ((i + 3)).toNat
        refine tt_k 4 (S' := (514, [some (.inr (.inl 1000004)), some (.inr (.inl 0)), some (.inr (.inl 30)), some (.inr (.inl 47)), some (.inl i), o5, o6], [.inl (i + 4), .inr (.inl 1000004), .inl ((xs ((i + 3)).toNat)), .inl ((xs ((i + 2)).toNat)), .inl ((xs ((i + 1)).toNat)), .inr (.inl 0)], n, D, s, p, c)) rfl ?_
        refine tt_stat (j := 4) (i := (i + 4)) rfl hs (by omega) ?_
        show tt Zi 12 0 (515, [some (.inr (.inl 1000004)), some (.inr (.inl 0)), some (.inr (.inl 30)), some (.inr (.inl 47)), some (.inl i), o5, o6], [.inl ((xs ((i + 4)).toNat)), .inl ((xs ((i + 3)).toNat)), .inl ((xs ((i + 2)).toNat)), .inl ((xs ((i + 1)).toNat)), .inr (.inl 0)], n, D, s, p, c) _
        have b180 := hxs ((i + 4)).toNat
        refine tt_k 4 (S' := (520, [some (.inr (.inl 1000004)), some (.inr (.inl 0)), some (.inr (.inl 30)), some (.inr (.inl 47)), some (.inl i), o5, o6], [.inl (i + 5), .inr (.inl 1000004), .inl ((xs ((i + 4)).toNat)), .inl ((xs ((i + 3)).toNat)), .inl ((xs ((i + 2)).toNat)), .inl ((xs ((i + 1)).toNat)), .inr (.inl 0)], n, D, s, p, c)) rfl ?_
        refine tt_stat (j := 4) (i := (i + 5)) rfl hs (by omega) ?_
        show tt Zi 12 0 (521, [some (.inr (.inl 1000004)), some (.inr (.inl 0)), some (.inr (.inl 30)), some (.inr (.inl 47)), some (.inl i), o5, o6], [.inl ((xs ((i + 5)).toNat)), .inl ((xs ((i + 4)).toNat)), .inl ((xs ((i + 3)).toNat)), .inl ((xs ((i + 2)).toNat)), .inl ((xs ((i + 1)).toNat)), .inr (.inl 0)], n, D, s, p, c) _
        have b181 := hxs ((i + 5)).toNat
        refine tt_k 1 (S' := (522, [some (.inr (.inl 1000004)), some (.inr (.inl 0)), some (.inr (.inl 30)), some (.inr (.inl 47)), some (.inl i), o5, o6], [.inr (.inl 47), .inl ((xs ((i + 5)).toNat)), .inl ((xs ((i + 4)).toNat)), .inl ((xs ((i + 3)).toNat)), .inl ((xs ((i + 2)).toNat)), .inl ((xs ((i + 1)).toNat)), .inr (.inl 0)], n, D, s, p, c)) rfl ?_
        refine tt_cl (by omega) rfl (h_feed (Zi := Zi) (q := q) (n := n) (D := D) (s := s) (p := p) (c := c) (by omega) hz (by omega) hD hS hC (wp_rg hW) ((xs ((i + 1)).toNat)) ((xs ((i + 2)).toNat)) ((xs ((i + 3)).toNat)) ((xs ((i + 4)).toNat)) ((xs ((i + 5)).toNat)) (by omega) (by omega) (by omega) (by omega) (by omega)) ?_
        rintro _ ⟨n182, D183, s184, p185, c186⟩ ⟨r188, rfl, b189, hY187, k190, k191⟩
        have hS184 : bS s184 := hY187.1
        have hC186 : bC D183 c186 := hY187.2.1
        have hW185 : wp _ _ n182 D183 p185 s184 := hY187.2.2.1
        have FKc : fk p c n182 p185 c186 [47, 600] := hY187.2.2.2.1
        have FFc : fr s s184 [601, 800, 801, 802, 803, 804, 805, 806, 807, 808, 809, 902, 1705, 1706, 2001, 2002, 2003, 2004, 2005, 2006, 2106, 2107, 2108, 2109, 2110, 2111, 2112, 2113, 2114, 2115, 2116, 2500, 2501, 2502, 2503, 2700, 2701, 2702, 2703] := hY187.2.2.2.2
        replace k190 : r188 = 0 → s 601 + 20 ≤ 32768 ∧ s184 601 = s 601 + 20 ∧ c186 47 0 = s 601 + 20 := k190
        replace k191 : r188 ≠ 0 → r188 = 1 ∧ ¬ (s 601 + 20 ≤ 32768) ∧ s184 601 = s 601 := k191
        show tt Zi 12 0 (525, [some (.inr (.inl 1000004)), some (.inr (.inl 0)), some (.inr (.inl 30)), some (.inr (.inl 47)), some (.inl i), o5, o6], [.inl r188], n182, D183, s184, p185, c186) _
        have tc100 : s184 100 = (s 100) := hW185.gz 100 rfl
        have tc101 : s184 101 = (s 101) := hW185.gz 101 rfl
        have tc102 : s184 102 = (s 102) := hW185.gz 102 rfl
        have tc103 : s184 103 = (s 103) := hW185.gz 103 rfl
        have tc3001 : s184 3001 = (s 3001) := hW185.gz 3001 rfl
        have tc3002 : s184 3002 = (s 3002) := hW185.gz 3002 rfl
        have tc3003 : s184 3003 = (s 3003) := hW185.gz 3003 rfl
        have tc3004 : s184 3004 = (s 3004) := hW185.gz 3004 rfl
        refine tt_k 6 (S' := (533, [some (.inr (.inl 1000004)), some (.inr (.inl 0)), some (.inr (.inl 30)), some (.inr (.inl 47)), some (.inl i), some (.inl r188), o6], [.inl (i + 1), .inr (.inl 1000004), .inr (.inl 30)], n182, D183, s184, p185, c186)) rfl ?_
        refine tt_stat (j := 4) (i := (i + 1)) rfl hs (by omega) ?_
        show tt Zi 12 0 (534, [some (.inr (.inl 1000004)), some (.inr (.inl 0)), some (.inr (.inl 30)), some (.inr (.inl 47)), some (.inl i), some (.inl r188), o6], [.inl ((xs ((i + 1)).toNat)), .inr (.inl 30)], n182, D183, s184, p185, c186) _
        refine tt_k 4 (S' := (539, [some (.inr (.inl 1000004)), some (.inr (.inl 0)), some (.inr (.inl 30)), some (.inr (.inl 47)), some (.inl i), some (.inl r188), o6], [.inl (i + 2), .inr (.inl 1000004), .inl ((xs ((i + 1)).toNat)), .inr (.inl 30)], n182, D183, s184, p185, c186)) rfl ?_
        refine tt_stat (j := 4) (i := (i + 2)) rfl hs (by omega) ?_
        show tt Zi 12 0 (540, [some (.inr (.inl 1000004)), some (.inr (.inl 0)), some (.inr (.inl 30)), some (.inr (.inl 47)), some (.inl i), some (.inl r188), o6], [.inl ((xs ((i + 2)).toNat)), .inl ((xs ((i + 1)).toNat)), .inr (.inl 30)], n182, D183, s184, p185, c186) _
        refine tt_k 4 (S' := (545, [some (.inr (.inl 1000004)), some (.inr (.inl 0)), some (.inr (.inl 30)), some (.inr (.inl 47)), some (.inl i), some (.inl r188), o6], [.inl (i + 3), .inr (.inl 1000004), .inl ((xs ((i + 2)).toNat)), .inl ((xs ((i + 1)).toNat)), .inr (.inl 30)], n182, D183, s184, p185, c186)) rfl ?_
        refine tt_stat (j := 4) (i := (i + 3)) rfl hs (by omega) ?_
        show tt Zi 12 0 (546, [some (.inr (.inl 1000004)), some (.inr (.inl 0)), some (.inr (.inl 30)), some (.inr (.inl 47)), some (.inl i), some (.inl r188), o6], [.inl ((xs ((i + 3)).toNat)), .inl ((xs ((i + 2)).toNat)), .inl ((xs ((i + 1)).toNat)), .inr (.inl 30)], n182, D183, s184, p185, c186) _
        refine tt_k 4 (S' := (551, [some (.inr (.inl 1000004)), some (.inr (.inl 0)), some (.inr (.inl 30)), some (.inr (.inl 47)), some (.inl i), some (.inl r188), o6], [.inl (i + 4), .inr (.inl 1000004), .inl ((xs ((i + 3)).toNat)), .inl ((xs ((i + 2)).toNat)), .inl ((xs ((i + 1)).toNat)), .inr (.inl 30)], n182, D183, s184, p185, c186)) rfl ?_
        refine tt_stat (j := 4) (i := (i + 4)) rfl hs (by omega) ?_
        show tt Zi 12 0 (552, [some (.inr (.inl 1000004)), some (.inr (.inl 0)), some (.inr (.inl 30)), some (.inr (.inl 47)), some (.inl i), some (.inl r188), o6], [.inl ((xs ((i + 4)).toNat)), .inl ((xs ((i + 3)).toNat)), .inl ((xs ((i + 2)).toNat)), .inl ((xs ((i + 1)).toNat)), .inr (.inl 30)], n182, D183, s184, p185, c186) _
        refine tt_k 4 (S' := (557, [some (.inr (.inl 1000004)), some (.inr (.inl 0)), some (.inr (.inl 30)), some (.inr (.inl 47)), some (.inl i), some (.inl r188), o6], [.inl (i + 5), .inr (.inl 1000004), .inl ((xs ((i + 4)).toNat)), .inl ((xs ((i + 3)).toNat)), .inl ((xs ((i + 2)).toNat)), .inl ((xs ((i + 1)).toNat)), .inr (.inl 30)], n182, D183, s184, p185, c186)) rfl ?_
        refine tt_stat (j := 4) (i := (i + 5)) rfl hs (by omega) ?_
        show tt Zi 12 0 (558, [some (.inr (.inl 1000004)), some (.inr (.inl 0)), some (.inr (.inl 30)), some (.inr (.inl 47)), some (.inl i), some (.inl r188), o6], [.inl ((xs ((i + 5)).toNat)), .inl ((xs ((i + 4)).toNat)), .inl ((xs ((i + 3)).toNat)), .inl ((xs ((i + 2)).toNat)), .inl ((xs ((i + 1)).toNat)), .inr (.inl 30)], n182, D183, s184, p185, c186) _
        refine tt_cl (by omega) rfl (k_feed3 (Zi := Zi) (D := D183) (s := s184) (p := p185) (c := c186) (by omega) hS184 hC186 ((xs ((i + 1)).toNat)) ((xs ((i + 2)).toNat)) ((xs ((i + 3)).toNat)) ((xs ((i + 4)).toNat)) ((xs ((i + 5)).toNat)) (by omega) (by omega) (by omega) (by omega) (by omega)) ?_
        rintro _ _ ⟨s192, c193, r194, rfl, rfl, hS192, hC193, f195, g196, b197, k198, k199, k200⟩
        have hW201 := wp_rf f195 (by decide) hW185
        show tt Zi 12 0 (561, [some (.inr (.inl 1000004)), some (.inr (.inl 0)), some (.inr (.inl 30)), some (.inr (.inl 47)), some (.inl i), some (.inl r188), o6], [.inl r194], n182, D183, s192, p185, c193) _
        have te100 : s192 100 = (s184 100) := f195 100 (by decide)
        have te101 : s192 101 = (s184 101) := f195 101 (by decide)
        have te102 : s192 102 = (s184 102) := f195 102 (by decide)
        have te103 : s192 103 = (s184 103) := f195 103 (by decide)
        have te3001 : s192 3001 = (s184 3001) := f195 3001 (by decide)
        have te3002 : s192 3002 = (s184 3002) := f195 3002 (by decide)
        have te3003 : s192 3003 = (s184 3003) := f195 3003 (by decide)
        have te3004 : s192 3004 = (s184 3004) := f195 3004 (by decide)
        have ht2 : tie s192 := ⟨te100.trans (tc100.trans (ht.1.trans (tc3001.symm.trans te3001.symm))), te101.trans (tc101.trans (ht.2.1.trans (tc3002.symm.trans te3002.symm))), te102.trans (tc102.trans (ht.2.2.1.trans (tc3003.symm.trans te3003.symm))), te103.trans (tc103.trans (ht.2.2.2.trans (tc3004.symm.trans te3004.symm)))⟩
        have FKr := fk_rc FKc.1 g196 (by decide)
        have tS2 : tiS s192 p185 c193 := tiS_fk (tiS_fk ⟨E, hcE, hrE⟩ FKc (by decide) tc100 tc101 tc102) FKr (by decide) te100 te101 te102
        have q1 : tqC c193 := tqC_f hQ.1 FKc FKr (by decide)
        have q2 : tqW s192 := tqW_f (tqW_f hQ.2.1 FFc (by decide)) f195 (by decide)
        have q3 : tqP s192 p185 c193 := tqP_f hQ.2.2.1 FKc FKr (by decide) FFc (by decide) f195 (by decide)
        have hqt := fd_q hQ.2.2.2 k190 k191 (tqN FFc (by decide)) k198 k199 k200
        rw [← show c193 47 = c186 47 from g196 47 (by decide)] at hqt
        have q4 : tqT s192 := (f195 601 (by decide)).trans hqt.2.2
        have tQ2 : tiQ s192 p185 c193 := ⟨q1, q2, q3, q4⟩
        clear tc100 tc101 tc102 tc103 tc3001 tc3002 tc3003 tc3004 te100 te101 te102 te103 te3001 te3002 te3003 te3004
        refine tt_k 4 (S' := (23, [some (.inr (.inl 1000004)), some (.inr (.inl 0)), some (.inr (.inl 30)), some (.inr (.inl 47)), some (.inl (i + 9)), some (.inl r188), some (.inl r194)], [], n182, D183, s192, p185, c193)) rfl ?_
        exact ih (q + 1) (i + 9) (some (.inl r188)) (some (.inl r194)) (n182, D183, s192, p185, c193) ⟨hS192, hC193, (wp_rg hW201), FKr.1⟩ ht2 tS2 tQ2 (by omega) (by omega) (by omega) (by omega)
      by_cases h202 : (mi_and (xs (i).toNat) 15) = 8
      · have h203 := h202
        refine tt_tsw (x := (mi_and (xs (i).toNat) 15)) (off := 526) rfl (by omega) (by omega) (by rw [h202]; rfl) rfl ?_
        show tt Zi 12 0 (566, [some (.inr (.inl 1000004)), some (.inr (.inl 0)), some (.inr (.inl 30)), some (.inr (.inl 47)), some (.inl i), o5, o6], [], n, D, s, p, c) _
        refine tt_k 5 (S' := (572, [some (.inr (.inl 1000004)), some (.inr (.inl 0)), some (.inr (.inl 30)), some (.inr (.inl 47)), some (.inl i), o5, o6], [.inl (i + 1), .inr (.inl 1000004), .inr (.inl 0)], n, D, s, p, c)) rfl ?_
        refine tt_stat (j := 4) (i := (i + 1)) rfl hs (by omega) ?_
        show tt Zi 12 0 (573, [some (.inr (.inl 1000004)), some (.inr (.inl 0)), some (.inr (.inl 30)), some (.inr (.inl 47)), some (.inl i), o5, o6], [.inl ((xs ((i + 1)).toNat)), .inr (.inl 0)], n, D, s, p, c) _
        have b204 := hxs ((i + 1)).toNat
        refine tt_cl (by omega) rfl (h_end (Zi := Zi) (q := q) (n := n) (D := D) (s := s) (p := p) (c := c) (by omega) hz (by omega) hD hS hC (wp_rg hW) ((xs ((i + 1)).toNat)) (by omega)) ?_
        rintro _ ⟨n205, D206, s207, p208, c209⟩ ⟨r211, rfl, b212, hY210, k213, k214⟩
        have hS207 : bS s207 := hY210.1
        have hC209 : bC D206 c209 := hY210.2.1
        have hW208 : wp _ _ n205 D206 p208 s207 := hY210.2.2.1
        have FKc : fk p c n205 p208 c209 [] := hY210.2.2.2.1
        have FFc : fr s s207 [601, 800, 801, 802, 803, 804, 805, 806, 807, 808, 809, 902, 1705, 1706, 2001, 2002, 2003, 2004, 2005, 2006, 2106, 2107, 2108, 2109, 2110, 2111, 2112, 2113, 2114, 2115, 2116, 2500, 2501, 2502, 2503, 2700, 2701, 2702, 2703] := hY210.2.2.2.2
        replace k213 : r211 = 0 → (0 ≤ ((xs ((i + 1)).toNat)) ∧ ((xs ((i + 1)).toNat)) ≤ s 601) ∧ s207 601 = ((xs ((i + 1)).toNat)) := k213
        replace k214 : r211 ≠ 0 → r211 = 1 ∧ ¬ (0 ≤ ((xs ((i + 1)).toNat)) ∧ ((xs ((i + 1)).toNat)) ≤ s 601) ∧ s207 601 = s 601 := k214
        show tt Zi 12 0 (576, [some (.inr (.inl 1000004)), some (.inr (.inl 0)), some (.inr (.inl 30)), some (.inr (.inl 47)), some (.inl i), o5, o6], [.inl r211], n205, D206, s207, p208, c209) _
        have tc100 : s207 100 = (s 100) := hW208.gz 100 rfl
        have tc101 : s207 101 = (s 101) := hW208.gz 101 rfl
        have tc102 : s207 102 = (s 102) := hW208.gz 102 rfl
        have tc103 : s207 103 = (s 103) := hW208.gz 103 rfl
        have tc3001 : s207 3001 = (s 3001) := hW208.gz 3001 rfl
        have tc3002 : s207 3002 = (s 3002) := hW208.gz 3002 rfl
        have tc3003 : s207 3003 = (s 3003) := hW208.gz 3003 rfl
        have tc3004 : s207 3004 = (s 3004) := hW208.gz 3004 rfl
        refine tt_k 6 (S' := (584, [some (.inr (.inl 1000004)), some (.inr (.inl 0)), some (.inr (.inl 30)), some (.inr (.inl 47)), some (.inl i), some (.inl r211), o6], [.inl (i + 1), .inr (.inl 1000004), .inr (.inl 30)], n205, D206, s207, p208, c209)) rfl ?_
        refine tt_stat (j := 4) (i := (i + 1)) rfl hs (by omega) ?_
        show tt Zi 12 0 (585, [some (.inr (.inl 1000004)), some (.inr (.inl 0)), some (.inr (.inl 30)), some (.inr (.inl 47)), some (.inl i), some (.inl r211), o6], [.inl ((xs ((i + 1)).toNat)), .inr (.inl 30)], n205, D206, s207, p208, c209) _
        refine tt_cl (by omega) rfl (k_end (Zi := Zi) (D := D206) (s := s207) (p := p208) (c := c209) (by omega) hS207 hC209 ((xs ((i + 1)).toNat)) (by omega)) ?_
        rintro _ _ ⟨s215, rfl, rfl, hS215, f216, k217, k218⟩
        have hW219 := wp_rf f216 (by decide) hW208
        show tt Zi 12 0 (588, [some (.inr (.inl 1000004)), some (.inr (.inl 0)), some (.inr (.inl 30)), some (.inr (.inl 47)), some (.inl i), some (.inl r211), o6], [], n205, D206, s215, p208, c209) _
        have te100 : s215 100 = (s207 100) := f216 100 (by decide)
        have te101 : s215 101 = (s207 101) := f216 101 (by decide)
        have te102 : s215 102 = (s207 102) := f216 102 (by decide)
        have te103 : s215 103 = (s207 103) := f216 103 (by decide)
        have te3001 : s215 3001 = (s207 3001) := f216 3001 (by decide)
        have te3002 : s215 3002 = (s207 3002) := f216 3002 (by decide)
        have te3003 : s215 3003 = (s207 3003) := f216 3003 (by decide)
        have te3004 : s215 3004 = (s207 3004) := f216 3004 (by decide)
        have ht2 : tie s215 := ⟨te100.trans (tc100.trans (ht.1.trans (tc3001.symm.trans te3001.symm))), te101.trans (tc101.trans (ht.2.1.trans (tc3002.symm.trans te3002.symm))), te102.trans (tc102.trans (ht.2.2.1.trans (tc3003.symm.trans te3003.symm))), te103.trans (tc103.trans (ht.2.2.2.trans (tc3004.symm.trans te3004.symm)))⟩
        have FKr := fk_rf (c := c209) (K := []) FKc.1
        have tS2 : tiS s215 p208 c209 := tiS_fk (tiS_fk ⟨E, hcE, hrE⟩ FKc (by decide) tc100 tc101 tc102) FKr (by decide) te100 te101 te102
        have q1 : tqC c209 := tqC_f hQ.1 FKc FKr (by decide)
        have q2 : tqW s215 := tqW_f (tqW_f hQ.2.1 FFc (by decide)) f216 (by decide)
        have q3 : tqP s215 p208 c209 := tqP_f hQ.2.2.1 FKc FKr (by decide) FFc (by decide) f216 (by decide)
        have hqt := en_q hQ.2.2.2 k213 k214 (tqN FFc (by decide)) k217 k218
        have q4 : tqT s215 := (f216 601 (by decide)).trans hqt.2
        have tQ2 : tiQ s215 p208 c209 := ⟨q1, q2, q3, q4⟩
        clear tc100 tc101 tc102 tc103 tc3001 tc3002 tc3003 tc3004 te100 te101 te102 te103 te3001 te3002 te3003 te3004
        refine tt_k 3 (S' := (23, [some (.inr (.inl 1000004)), some (.inr (.inl 0)), some (.inr (.inl 30)), some (.inr (.inl 47)), some (.inl (i + 9)), some (.inl r211), o6], [], n205, D206, s215, p208, c209)) rfl ?_
        exact ih (q + 1) (i + 9) (some (.inl r211)) (o6) (n205, D206, s215, p208, c209) ⟨hS215, hC209, (wp_rg hW219), FKr.1⟩ ht2 tS2 tQ2 (by omega) (by omega) (by omega) (by omega)
      by_cases h220 : (mi_and (xs (i).toNat) 15) = 9
      · have h221 := h220
        refine tt_tsw (x := (mi_and (xs (i).toNat) 15)) (off := 551) rfl (by omega) (by omega) (by rw [h220]; rfl) rfl ?_
        show tt Zi 12 0 (591, [some (.inr (.inl 1000004)), some (.inr (.inl 0)), some (.inr (.inl 30)), some (.inr (.inl 47)), some (.inl i), o5, o6], [], n, D, s, p, c) _
        refine tt_k 5 (S' := (597, [some (.inr (.inl 1000004)), some (.inr (.inl 0)), some (.inr (.inl 30)), some (.inr (.inl 47)), some (.inl i), o5, o6], [.inl (i + 1), .inr (.inl 1000004), .inr (.inl 0)], n, D, s, p, c)) rfl ?_
        refine tt_stat (j := 4) (i := (i + 1)) rfl hs (by omega) ?_
        show tt Zi 12 0 (598, [some (.inr (.inl 1000004)), some (.inr (.inl 0)), some (.inr (.inl 30)), some (.inr (.inl 47)), some (.inl i), o5, o6], [.inl ((xs ((i + 1)).toNat)), .inr (.inl 0)], n, D, s, p, c) _
        have b222 := hxs ((i + 1)).toNat
        refine tt_k 4 (S' := (603, [some (.inr (.inl 1000004)), some (.inr (.inl 0)), some (.inr (.inl 30)), some (.inr (.inl 47)), some (.inl i), o5, o6], [.inl (i + 2), .inr (.inl 1000004), .inl ((xs ((i + 1)).toNat)), .inr (.inl 0)], n, D, s, p, c)) rfl ?_
        refine tt_stat (j := 4) (i := (i + 2)) rfl hs (by omega) ?_
        show tt Zi 12 0 (604, [some (.inr (.inl 1000004)), some (.inr (.inl 0)), some (.inr (.inl 30)), some (.inr (.inl 47)), some (.inl i), o5, o6], [.inl ((xs ((i + 2)).toNat)), .inl ((xs ((i + 1)).toNat)), .inr (.inl 0)], n, D, s, p, c) _
        have b223 := hxs ((i + 2)).toNat
        refine tt_k 1 (S' := (605, [some (.inr (.inl 1000004)), some (.inr (.inl 0)), some (.inr (.inl 30)), some (.inr (.inl 47)), some (.inl i), o5, o6], [.inr (.inl 47), .inl ((xs ((i + 2)).toNat)), .inl ((xs ((i + 1)).toNat)), .inr (.inl 0)], n, D, s, p, c)) rfl ?_
        refine tt_cl (by omega) rfl (h_change (Zi := Zi) (q := q) (n := n) (D := D) (s := s) (p := p) (c := c) (by omega) hz (by omega) hD hS hC (wp_rg hW) ((xs ((i + 1)).toNat)) ((xs ((i + 2)).toNat)) (by omega) (by omega)) ?_
        rintro _ ⟨n224, D225, s226, p227, c228⟩ ⟨r230, rfl, b231, hY229, k232⟩
        have hS226 : bS s226 := hY229.1
        have hC228 : bC D225 c228 := hY229.2.1
        have hW227 : wp _ _ n224 D225 p227 s226 := hY229.2.2.1
        have FKc : fk p c n224 p227 c228 [47, 600] := hY229.2.2.2.1
        have FFc : fr s s226 [800, 801, 802, 803, 804, 805, 806, 807, 808, 809, 902, 1705, 1706, 2001, 2002, 2003, 2004, 2005, 2006, 2106, 2107, 2108, 2109, 2110, 2111, 2112, 2113, 2114, 2115, 2116, 2500, 2501, 2502, 2503, 2700, 2701, 2702, 2703] := hY229.2.2.2.2
        replace k232 : chP r230 ((xs ((i + 1)).toNat)) ((xs ((i + 2)).toNat)) (s 601) := k232
        show tt Zi 12 0 (608, [some (.inr (.inl 1000004)), some (.inr (.inl 0)), some (.inr (.inl 30)), some (.inr (.inl 47)), some (.inl i), o5, o6], [.inl r230], n224, D225, s226, p227, c228) _
        have tc100 : s226 100 = (s 100) := hW227.gz 100 rfl
        have tc101 : s226 101 = (s 101) := hW227.gz 101 rfl
        have tc102 : s226 102 = (s 102) := hW227.gz 102 rfl
        have tc103 : s226 103 = (s 103) := hW227.gz 103 rfl
        have tc3001 : s226 3001 = (s 3001) := hW227.gz 3001 rfl
        have tc3002 : s226 3002 = (s 3002) := hW227.gz 3002 rfl
        have tc3003 : s226 3003 = (s 3003) := hW227.gz 3003 rfl
        have tc3004 : s226 3004 = (s 3004) := hW227.gz 3004 rfl
        refine tt_k 6 (S' := (616, [some (.inr (.inl 1000004)), some (.inr (.inl 0)), some (.inr (.inl 30)), some (.inr (.inl 47)), some (.inl i), some (.inl r230), o6], [.inl (i + 1), .inr (.inl 1000004), .inr (.inl 30)], n224, D225, s226, p227, c228)) rfl ?_
        refine tt_stat (j := 4) (i := (i + 1)) rfl hs (by omega) ?_
        show tt Zi 12 0 (617, [some (.inr (.inl 1000004)), some (.inr (.inl 0)), some (.inr (.inl 30)), some (.inr (.inl 47)), some (.inl i), some (.inl r230), o6], [.inl ((xs ((i + 1)).toNat)), .inr (.inl 30)], n224, D225, s226, p227, c228) _
        refine tt_k 4 (S' := (622, [some (.inr (.inl 1000004)), some (.inr (.inl 0)), some (.inr (.inl 30)), some (.inr (.inl 47)), some (.inl i), some (.inl r230), o6], [.inl (i + 2), .inr (.inl 1000004), .inl ((xs ((i + 1)).toNat)), .inr (.inl 30)], n224, D225, s226, p227, c228)) rfl ?_
        refine tt_stat (j := 4) (i := (i + 2)) rfl hs (by omega) ?_
        show tt Zi 12 0 (623, [some (.inr (.inl 1000004)), some (.inr (.inl 0)), some (.inr (.inl 30)), some (.inr (.inl 47)), some (.inl i), some (.inl r230), o6], [.inl ((xs ((i + 2)).toNat)), .inl ((xs ((i + 1)).toNat)), .inr (.inl 30)], n224, D225, s226, p227, c228) _
        refine tt_cl (by omega) rfl (k_change3 (Zi := Zi) (D := D225) (s := s226) (p := p227) (c := c228) (by omega) hS226 hC228 ((xs ((i + 1)).toNat)) ((xs ((i + 2)).toNat)) (by omega) (by omega)) ?_
        rintro _ _ ⟨s233, c234, r235, rfl, rfl, hS233, hC234, f236, g237, b238, k239⟩
        have hW240 := wp_rf f236 (by decide) hW227
        show tt Zi 12 0 (626, [some (.inr (.inl 1000004)), some (.inr (.inl 0)), some (.inr (.inl 30)), some (.inr (.inl 47)), some (.inl i), some (.inl r230), o6], [.inl r235], n224, D225, s233, p227, c234) _
        have te100 : s233 100 = (s226 100) := f236 100 (by decide)
        have te101 : s233 101 = (s226 101) := f236 101 (by decide)
        have te102 : s233 102 = (s226 102) := f236 102 (by decide)
        have te103 : s233 103 = (s226 103) := f236 103 (by decide)
        have te3001 : s233 3001 = (s226 3001) := f236 3001 (by decide)
        have te3002 : s233 3002 = (s226 3002) := f236 3002 (by decide)
        have te3003 : s233 3003 = (s226 3003) := f236 3003 (by decide)
        have te3004 : s233 3004 = (s226 3004) := f236 3004 (by decide)
        have ht2 : tie s233 := ⟨te100.trans (tc100.trans (ht.1.trans (tc3001.symm.trans te3001.symm))), te101.trans (tc101.trans (ht.2.1.trans (tc3002.symm.trans te3002.symm))), te102.trans (tc102.trans (ht.2.2.1.trans (tc3003.symm.trans te3003.symm))), te103.trans (tc103.trans (ht.2.2.2.trans (tc3004.symm.trans te3004.symm)))⟩
        have FKr := fk_rc FKc.1 g237 (by decide)
        have tS2 : tiS s233 p227 c234 := tiS_fk (tiS_fk ⟨E, hcE, hrE⟩ FKc (by decide) tc100 tc101 tc102) FKr (by decide) te100 te101 te102
        have q1 : tqC c234 := tqC_f hQ.1 FKc FKr (by decide)
        have q2 : tqW s233 := tqW_f (tqW_f hQ.2.1 FFc (by decide)) f236 (by decide)
        have q3 : tqP s233 p227 c234 := tqP_f hQ.2.2.1 FKc FKr (by decide) FFc (by decide) f236 (by decide)
        have q4 : tqT s233 := tqT_f (tqT_f hQ.2.2.2 FFc (by decide)) f236 (by decide)
        have hqt := ch_q hQ.2.2.2 k232 (tqN FFc (by decide)) k239
        have tQ2 : tiQ s233 p227 c234 := ⟨q1, q2, q3, q4⟩
        clear tc100 tc101 tc102 tc103 tc3001 tc3002 tc3003 tc3004 te100 te101 te102 te103 te3001 te3002 te3003 te3004
        refine tt_k 4 (S' := (23, [some (.inr (.inl 1000004)), some (.inr (.inl 0)), some (.inr (.inl 30)), some (.inr (.inl 47)), some (.inl (i + 9)), some (.inl r230), some (.inl r235)], [], n224, D225, s233, p227, c234)) rfl ?_
        exact ih (q + 1) (i + 9) (some (.inl r230)) (some (.inl r235)) (n224, D225, s233, p227, c234) ⟨hS233, hC234, (wp_rg hW240), FKr.1⟩ ht2 tS2 tQ2 (by omega) (by omega) (by omega) (by omega)
      by_cases h241 : (mi_and (xs (i).toNat) 15) = 10
      · have h242 := h241
        refine tt_tsw (x := (mi_and (xs (i).toNat) 15)) (off := 591) rfl (by omega) (by omega) (by rw [h241]; rfl) rfl ?_
        show tt Zi 12 0 (631, [some (.inr (.inl 1000004)), some (.inr (.inl 0)), some (.inr (.inl 30)), some (.inr (.inl 47)), some (.inl i), o5, o6], [], n, D, s, p, c) _
        refine tt_k 2 (S' := (633, [some (.inr (.inl 1000004)), some (.inr (.inl 0)), some (.inr (.inl 30)), some (.inr (.inl 47)), some (.inl i), o5, o6], [.inr (.inl 47), .inr (.inl 0)], n, D, s, p, c)) rfl ?_
        refine tt_cl (by omega) rfl (h_turn (Zi := Zi) (q := q) (n := n) (D := D) (s := s) (p := p) (c := c) (by omega) hz (by omega) hD hS hC (wp_rg hW) ) ?_
        rintro _ ⟨n243, D244, s245, p246, c247⟩ ⟨r249, rfl, b250, hY248, k251, k252⟩
        have hS245 : bS s245 := hY248.1
        have hC247 : bC D244 c247 := hY248.2.1
        have hW246 : wp _ _ n243 D244 p246 s245 := hY248.2.2.1
        have FKc : fk p c n243 p246 c247 [47, 600] := hY248.2.2.2.1
        have FFc : fr s s245 [601, 800, 801, 802, 803, 804, 805, 806, 807, 808, 809, 902, 1705, 1706, 2001, 2002, 2003, 2004, 2005, 2006, 2106, 2107, 2108, 2109, 2110, 2111, 2112, 2113, 2114, 2115, 2116, 2500, 2501, 2502, 2503, 2700, 2701, 2702, 2703] := hY248.2.2.2.2
        replace k251 : r249 = 0 → s 401 ≤ 32768 ∧ s245 601 = s 401 ∧ c247 47 0 = s 401 := k251
        replace k252 : r249 ≠ 0 → r249 = 1 ∧ ¬ (s 401 ≤ 32768) ∧ s245 601 = s 601 := k252
        show tt Zi 12 0 (636, [some (.inr (.inl 1000004)), some (.inr (.inl 0)), some (.inr (.inl 30)), some (.inr (.inl 47)), some (.inl i), o5, o6], [.inl r249], n243, D244, s245, p246, c247) _
        have tc100 : s245 100 = (s 100) := hW246.gz 100 rfl
        have tc101 : s245 101 = (s 101) := hW246.gz 101 rfl
        have tc102 : s245 102 = (s 102) := hW246.gz 102 rfl
        have tc103 : s245 103 = (s 103) := hW246.gz 103 rfl
        have tc3001 : s245 3001 = (s 3001) := hW246.gz 3001 rfl
        have tc3002 : s245 3002 = (s 3002) := hW246.gz 3002 rfl
        have tc3003 : s245 3003 = (s 3003) := hW246.gz 3003 rfl
        have tc3004 : s245 3004 = (s 3004) := hW246.gz 3004 rfl
        refine tt_k 2 (S' := (639, [some (.inr (.inl 1000004)), some (.inr (.inl 0)), some (.inr (.inl 30)), some (.inr (.inl 47)), some (.inl i), some (.inl r249), o6], [.inr (.inl 30)], n243, D244, s245, p246, c247)) rfl ?_
        refine tt_cl (by omega) rfl (k_turn3 (Zi := Zi) (D := D244) (s := s245) (p := p246) (c := c247) (by omega) hS245 hC247 ) ?_
        rintro _ _ ⟨s253, c254, r255, rfl, rfl, hS253, hC254, f256, g257, b258, k259, k260, k261⟩
        have hW262 := wp_rf f256 (by decide) hW246
        show tt Zi 12 0 (642, [some (.inr (.inl 1000004)), some (.inr (.inl 0)), some (.inr (.inl 30)), some (.inr (.inl 47)), some (.inl i), some (.inl r249), o6], [.inl r255], n243, D244, s253, p246, c254) _
        have te100 : s253 100 = (s245 100) := f256 100 (by decide)
        have te101 : s253 101 = (s245 101) := f256 101 (by decide)
        have te102 : s253 102 = (s245 102) := f256 102 (by decide)
        have te103 : s253 103 = (s245 103) := f256 103 (by decide)
        have te3001 : s253 3001 = (s245 3001) := f256 3001 (by decide)
        have te3002 : s253 3002 = (s245 3002) := f256 3002 (by decide)
        have te3003 : s253 3003 = (s245 3003) := f256 3003 (by decide)
        have te3004 : s253 3004 = (s245 3004) := f256 3004 (by decide)
        have ht2 : tie s253 := ⟨te100.trans (tc100.trans (ht.1.trans (tc3001.symm.trans te3001.symm))), te101.trans (tc101.trans (ht.2.1.trans (tc3002.symm.trans te3002.symm))), te102.trans (tc102.trans (ht.2.2.1.trans (tc3003.symm.trans te3003.symm))), te103.trans (tc103.trans (ht.2.2.2.trans (tc3004.symm.trans te3004.symm)))⟩
        have FKr := fk_rc FKc.1 g257 (by decide)
        have tS2 : tiS s253 p246 c254 := tiS_fk (tiS_fk ⟨E, hcE, hrE⟩ FKc (by decide) tc100 tc101 tc102) FKr (by decide) te100 te101 te102
        have q1 : tqC c254 := tqC_f hQ.1 FKc FKr (by decide)
        have q2 : tqW s253 := tqW_f (tqW_f hQ.2.1 FFc (by decide)) f256 (by decide)
        have q3 : tqP s253 p246 c254 := tqP_f hQ.2.2.1 FKc FKr (by decide) FFc (by decide) f256 (by decide)
        have hqt := tu_q hQ.2.2.2 hQ.2.2.1.1 k251 k252 (tqN FFc (by decide)) (tqZ FFc (by decide)) k259 k260 k261
        rw [← show c254 47 = c247 47 from g257 47 (by decide)] at hqt
        have q4 : tqT s253 := (f256 601 (by decide)).trans hqt.2.2
        have tQ2 : tiQ s253 p246 c254 := ⟨q1, q2, q3, q4⟩
        clear tc100 tc101 tc102 tc103 tc3001 tc3002 tc3003 tc3004 te100 te101 te102 te103 te3001 te3002 te3003 te3004
        refine tt_k 4 (S' := (23, [some (.inr (.inl 1000004)), some (.inr (.inl 0)), some (.inr (.inl 30)), some (.inr (.inl 47)), some (.inl (i + 9)), some (.inl r249), some (.inl r255)], [], n243, D244, s253, p246, c254)) rfl ?_
        exact ih (q + 1) (i + 9) (some (.inl r249)) (some (.inl r255)) (n243, D244, s253, p246, c254) ⟨hS253, hC254, (wp_rg hW262), FKr.1⟩ ht2 tS2 tQ2 (by omega) (by omega) (by omega) (by omega)
      by_cases h263 : (mi_and (xs (i).toNat) 15) = 11
      · have h264 := h263
        refine tt_tsw (x := (mi_and (xs (i).toNat) 15)) (off := 607) rfl (by omega) (by omega) (by rw [h263]; rfl) rfl ?_
        show tt Zi 12 0 (647, [some (.inr (.inl 1000004)), some (.inr (.inl 0)), some (.inr (.inl 30)), some (.inr (.inl 47)), some (.inl i), o5, o6], [], n, D, s, p, c) _
        refine tt_k 1 (S' := (648, [some (.inr (.inl 1000004)), some (.inr (.inl 0)), some (.inr (.inl 30)), some (.inr (.inl 47)), some (.inl i), o5, o6], [.inr (.inl 0)], n, D, s, p, c)) rfl ?_
        refine tt_cl (by omega) rfl (g_unpack (Zi := Zi) (q := q) (n := n) (D := D) (s := s) (p := p) (c := c) (by omega) hz (by omega) hD hS hC (wp_rg hW) ) ?_
        rintro _ ⟨n265, D266, s267, p268, c269⟩ ⟨r271, rfl, b272, hY270⟩
        have hS267 : bS s267 := hY270.1
        have hC269 : bC D266 c269 := hY270.2.1
        have hW268 : wp _ _ n265 D266 p268 s267 := hY270.2.2.1
        have FKc : fk p c n265 p268 c269 [18, 19, 900, 901, 2103, 2104, 2504, 2704] := hY270.2.2.2.1
        have FFc : fr s s267 [10, 11, 800, 801, 802, 803, 804, 805, 806, 807, 808, 809, 902, 1705, 1706, 2001, 2002, 2003, 2004, 2005, 2006, 2106, 2107, 2108, 2109, 2110, 2111, 2112, 2113, 2114, 2115, 2116, 2500, 2501, 2502, 2503, 2700, 2701, 2702, 2703] := hY270.2.2.2.2
        show tt Zi 12 0 (651, [some (.inr (.inl 1000004)), some (.inr (.inl 0)), some (.inr (.inl 30)), some (.inr (.inl 47)), some (.inl i), o5, o6], [.inl r271], n265, D266, s267, p268, c269) _
        have tc100 : s267 100 = (s 100) := hW268.gz 100 rfl
        have tc101 : s267 101 = (s 101) := hW268.gz 101 rfl
        have tc102 : s267 102 = (s 102) := hW268.gz 102 rfl
        have tc103 : s267 103 = (s 103) := hW268.gz 103 rfl
        have tc3001 : s267 3001 = (s 3001) := hW268.gz 3001 rfl
        have tc3002 : s267 3002 = (s 3002) := hW268.gz 3002 rfl
        have tc3003 : s267 3003 = (s 3003) := hW268.gz 3003 rfl
        have tc3004 : s267 3004 = (s 3004) := hW268.gz 3004 rfl
        refine tt_k 2 (S' := (653, [some (.inr (.inl 1000004)), some (.inr (.inl 0)), some (.inr (.inl 30)), some (.inr (.inl 47)), some (.inl i), o5, o6], [.inr (.inl 30)], n265, D266, s267, p268, c269)) rfl ?_
        refine tt_cl (by omega) rfl (k_unpack (Zi := Zi) (D := D266) (s := s267) (p := p268) (c := c269) (by omega) hS267 hC269 ) ?_
        rintro _ _ ⟨s273, c274, r275, rfl, rfl, hS273, hC274, f276, g277, b278⟩
        have hW279 := wp_rf f276 (by decide) hW268
        show tt Zi 12 0 (656, [some (.inr (.inl 1000004)), some (.inr (.inl 0)), some (.inr (.inl 30)), some (.inr (.inl 47)), some (.inl i), o5, o6], [.inl r275], n265, D266, s273, p268, c274) _
        have te100 : s273 100 = (s267 100) := f276 100 (by decide)
        have te101 : s273 101 = (s267 101) := f276 101 (by decide)
        have te102 : s273 102 = (s267 102) := f276 102 (by decide)
        have te103 : s273 103 = (s267 103) := f276 103 (by decide)
        have te3001 : s273 3001 = (s267 3001) := f276 3001 (by decide)
        have te3002 : s273 3002 = (s267 3002) := f276 3002 (by decide)
        have te3003 : s273 3003 = (s267 3003) := f276 3003 (by decide)
        have te3004 : s273 3004 = (s267 3004) := f276 3004 (by decide)
        have ht2 : tie s273 := ⟨te100.trans (tc100.trans (ht.1.trans (tc3001.symm.trans te3001.symm))), te101.trans (tc101.trans (ht.2.1.trans (tc3002.symm.trans te3002.symm))), te102.trans (tc102.trans (ht.2.2.1.trans (tc3003.symm.trans te3003.symm))), te103.trans (tc103.trans (ht.2.2.2.trans (tc3004.symm.trans te3004.symm)))⟩
        have FKr := fk_rc FKc.1 g277 (by decide)
        have tS2 : tiS s273 p268 c274 := tiS_fk (tiS_fk ⟨E, hcE, hrE⟩ FKc (by decide) tc100 tc101 tc102) FKr (by decide) te100 te101 te102
        have q1 : tqC c274 := tqC_f hQ.1 FKc FKr (by decide)
        have q2 : tqW s273 := tqW_f (tqW_f hQ.2.1 FFc (by decide)) f276 (by decide)
        have q3 : tqP s273 p268 c274 := tqP_f hQ.2.2.1 FKc FKr (by decide) FFc (by decide) f276 (by decide)
        have q4 : tqT s273 := tqT_f (tqT_f hQ.2.2.2 FFc (by decide)) f276 (by decide)
        have tQ2 : tiQ s273 p268 c274 := ⟨q1, q2, q3, q4⟩
        clear tc100 tc101 tc102 tc103 tc3001 tc3002 tc3003 tc3004 te100 te101 te102 te103 te3001 te3002 te3003 te3004
        refine tt_k 4 (S' := (23, [some (.inr (.inl 1000004)), some (.inr (.inl 0)), some (.inr (.inl 30)), some (.inr (.inl 47)), some (.inl (i + 9)), o5, o6], [], n265, D266, s273, p268, c274)) rfl ?_
        exact ih (q + 1) (i + 9) (o5) (o6) (n265, D266, s273, p268, c274) ⟨hS273, hC274, (wp_rg hW279), FKr.1⟩ ht2 tS2 tQ2 (by omega) (by omega) (by omega) (by omega)
      by_cases h280 : (mi_and (xs (i).toNat) 15) = 12
      · have h281 := h280
        refine tt_tsw (x := (mi_and (xs (i).toNat) 15)) (off := 620) rfl (by omega) (by omega) (by rw [h280]; rfl) rfl ?_
        show tt Zi 12 0 (660, [some (.inr (.inl 1000004)), some (.inr (.inl 0)), some (.inr (.inl 30)), some (.inr (.inl 47)), some (.inl i), o5, o6], [], n, D, s, p, c) _
        refine tt_k 1 (S' := (661, [some (.inr (.inl 1000004)), some (.inr (.inl 0)), some (.inr (.inl 30)), some (.inr (.inl 47)), some (.inl i), o5, o6], [.inr (.inl 0)], n, D, s, p, c)) rfl ?_
        refine tt_cl (by omega) rfl (g_place (Zi := Zi) (q := q) (n := n) (D := D) (s := s) (p := p) (c := c) (by omega) hz (by omega) hD hS hC (wp_rg hW) ) ?_
        rintro _ ⟨n282, D283, s284, p285, c286⟩ ⟨r288, rfl, b289, hY287⟩
        have hS284 : bS s284 := hY287.1
        have hC286 : bC D283 c286 := hY287.2.1
        have hW285 : wp _ _ n282 D283 p285 s284 := hY287.2.2.1
        have FKc : fk p c n282 p285 c286 [] := hY287.2.2.2.1
        have FFc : fr s s284 [] := hY287.2.2.2.2
        show tt Zi 12 0 (664, [some (.inr (.inl 1000004)), some (.inr (.inl 0)), some (.inr (.inl 30)), some (.inr (.inl 47)), some (.inl i), o5, o6], [.inl r288], n282, D283, s284, p285, c286) _
        have tc100 : s284 100 = (s 100) := hW285.gz 100 rfl
        have tc101 : s284 101 = (s 101) := hW285.gz 101 rfl
        have tc102 : s284 102 = (s 102) := hW285.gz 102 rfl
        have tc103 : s284 103 = (s 103) := hW285.gz 103 rfl
        have tc3001 : s284 3001 = (s 3001) := hW285.gz 3001 rfl
        have tc3002 : s284 3002 = (s 3002) := hW285.gz 3002 rfl
        have tc3003 : s284 3003 = (s 3003) := hW285.gz 3003 rfl
        have tc3004 : s284 3004 = (s 3004) := hW285.gz 3004 rfl
        refine tt_k 2 (S' := (666, [some (.inr (.inl 1000004)), some (.inr (.inl 0)), some (.inr (.inl 30)), some (.inr (.inl 47)), some (.inl i), o5, o6], [.inr (.inl 30)], n282, D283, s284, p285, c286)) rfl ?_
        refine tt_cl (by omega) rfl (k_place (Zi := Zi) (D := D283) (s := s284) (p := p285) (c := c286) (by omega) hS284 hC286 ) ?_
        rintro _ _ ⟨s290, r291, rfl, rfl, hS290, f292, b293, k294, k295⟩
        have hW296 := wp_rf f292 (by decide) hW285
        show tt Zi 12 0 (669, [some (.inr (.inl 1000004)), some (.inr (.inl 0)), some (.inr (.inl 30)), some (.inr (.inl 47)), some (.inl i), o5, o6], [.inl r291], n282, D283, s290, p285, c286) _
        have te100 : s290 100 = (s284 100) := f292 100 (by decide)
        have te101 : s290 101 = (s284 101) := f292 101 (by decide)
        have te102 : s290 102 = (s284 102) := f292 102 (by decide)
        have te103 : s290 103 = (s284 103) := f292 103 (by decide)
        have te3001 : s290 3001 = (s284 3001) := f292 3001 (by decide)
        have te3002 : s290 3002 = (s284 3002) := f292 3002 (by decide)
        have te3003 : s290 3003 = (s284 3003) := f292 3003 (by decide)
        have te3004 : s290 3004 = (s284 3004) := f292 3004 (by decide)
        have ht2 : tie s290 := ⟨te100.trans (tc100.trans (ht.1.trans (tc3001.symm.trans te3001.symm))), te101.trans (tc101.trans (ht.2.1.trans (tc3002.symm.trans te3002.symm))), te102.trans (tc102.trans (ht.2.2.1.trans (tc3003.symm.trans te3003.symm))), te103.trans (tc103.trans (ht.2.2.2.trans (tc3004.symm.trans te3004.symm)))⟩
        have FKr := fk_rf (c := c286) (K := []) FKc.1
        have tS2 : tiS s290 p285 c286 := tiS_fk (tiS_fk ⟨E, hcE, hrE⟩ FKc (by decide) tc100 tc101 tc102) FKr (by decide) te100 te101 te102
        have q1 : tqC c286 := tqC_f hQ.1 FKc FKr (by decide)
        have q2 : tqW s290 := tqW_f (tqW_f hQ.2.1 FFc (by decide)) f292 (by decide)
        have q3 : tqP s290 p285 c286 := tqP_f hQ.2.2.1 FKc FKr (by decide) FFc (by decide) f292 (by decide)
        have q4 : tqT s290 := tqT_f (tqT_f hQ.2.2.2 FFc (by decide)) f292 (by decide)
        have tQ2 : tiQ s290 p285 c286 := ⟨q1, q2, q3, q4⟩
        clear tc100 tc101 tc102 tc103 tc3001 tc3002 tc3003 tc3004 te100 te101 te102 te103 te3001 te3002 te3003 te3004
        refine tt_k 4 (S' := (23, [some (.inr (.inl 1000004)), some (.inr (.inl 0)), some (.inr (.inl 30)), some (.inr (.inl 47)), some (.inl (i + 9)), o5, o6], [], n282, D283, s290, p285, c286)) rfl ?_
        exact ih (q + 1) (i + 9) (o5) (o6) (n282, D283, s290, p285, c286) ⟨hS290, hC286, (wp_rg hW296), FKr.1⟩ ht2 tS2 tQ2 (by omega) (by omega) (by omega) (by omega)
      by_cases h297 : (mi_and (xs (i).toNat) 15) = 13
      · have h298 := h297
        refine tt_tsw (x := (mi_and (xs (i).toNat) 15)) (off := 633) rfl (by omega) (by omega) (by rw [h297]; rfl) rfl ?_
        show tt Zi 12 0 (673, [some (.inr (.inl 1000004)), some (.inr (.inl 0)), some (.inr (.inl 30)), some (.inr (.inl 47)), some (.inl i), o5, o6], [], n, D, s, p, c) _
        refine tt_k 5 (S' := (679, [some (.inr (.inl 1000004)), some (.inr (.inl 0)), some (.inr (.inl 30)), some (.inr (.inl 47)), some (.inl i), o5, o6], [.inl (i + 1), .inr (.inl 1000004), .inr (.inl 0)], n, D, s, p, c)) rfl ?_
        refine tt_stat (j := 4) (i := (i + 1)) rfl hs (by omega) ?_
        show tt Zi 12 0 (680, [some (.inr (.inl 1000004)), some (.inr (.inl 0)), some (.inr (.inl 30)), some (.inr (.inl 47)), some (.inl i), o5, o6], [.inl ((xs ((i + 1)).toNat)), .inr (.inl 0)], n, D, s, p, c) _
        have b299 := hxs ((i + 1)).toNat
        refine tt_k 1 (S' := (681, [some (.inr (.inl 1000004)), some (.inr (.inl 0)), some (.inr (.inl 30)), some (.inr (.inl 47)), some (.inl i), o5, o6], [.inr (.inl 47), .inl ((xs ((i + 1)).toNat)), .inr (.inl 0)], n, D, s, p, c)) rfl ?_
        refine tt_cl (by omega) rfl (h_about (Zi := Zi) (q := q) (n := n) (D := D) (s := s) (p := p) (c := c) (by omega) hz (by omega) hD hS hC (wp_rg hW) ((xs ((i + 1)).toNat)) (by omega)) ?_
        rintro _ ⟨n300, D301, s302, p303, c304⟩ ⟨r306, rfl, b307, hY305⟩
        have hS302 : bS s302 := hY305.1
        have hC304 : bC D301 c304 := hY305.2.1
        have hW303 : wp _ _ n300 D301 p303 s302 := hY305.2.2.1
        have FKc : fk p c n300 p303 c304 [47] := hY305.2.2.2.1
        have FFc : fr s s302 [800, 801, 802, 803, 804, 805, 806, 807, 808, 809, 902, 1705, 1706, 2001, 2002, 2003, 2004, 2005, 2006, 2106, 2107, 2108, 2109, 2110, 2111, 2112, 2113, 2114, 2115, 2116, 2500, 2501, 2502, 2503, 2700, 2701, 2702, 2703] := hY305.2.2.2.2
        show tt Zi 12 0 (684, [some (.inr (.inl 1000004)), some (.inr (.inl 0)), some (.inr (.inl 30)), some (.inr (.inl 47)), some (.inl i), o5, o6], [.inl r306], n300, D301, s302, p303, c304) _
        have tc100 : s302 100 = (s 100) := hW303.gz 100 rfl
        have tc101 : s302 101 = (s 101) := hW303.gz 101 rfl
        have tc102 : s302 102 = (s 102) := hW303.gz 102 rfl
        have tc103 : s302 103 = (s 103) := hW303.gz 103 rfl
        have tc3001 : s302 3001 = (s 3001) := hW303.gz 3001 rfl
        have tc3002 : s302 3002 = (s 3002) := hW303.gz 3002 rfl
        have tc3003 : s302 3003 = (s 3003) := hW303.gz 3003 rfl
        have tc3004 : s302 3004 = (s 3004) := hW303.gz 3004 rfl
        refine tt_k 6 (S' := (692, [some (.inr (.inl 1000004)), some (.inr (.inl 0)), some (.inr (.inl 30)), some (.inr (.inl 47)), some (.inl i), some (.inl r306), o6], [.inl (i + 1), .inr (.inl 1000004), .inr (.inl 30)], n300, D301, s302, p303, c304)) rfl ?_
        refine tt_stat (j := 4) (i := (i + 1)) rfl hs (by omega) ?_
        show tt Zi 12 0 (693, [some (.inr (.inl 1000004)), some (.inr (.inl 0)), some (.inr (.inl 30)), some (.inr (.inl 47)), some (.inl i), some (.inl r306), o6], [.inl ((xs ((i + 1)).toNat)), .inr (.inl 30)], n300, D301, s302, p303, c304) _
        refine tt_cl (by omega) rfl (k_about (Zi := Zi) (D := D301) (s := s302) (p := p303) (c := c304) (by omega) hS302 hC304 ((xs ((i + 1)).toNat)) (by omega)) ?_
        rintro _ _ ⟨s308, r309, rfl, rfl, hS308, f310, b311⟩
        have hW312 := wp_rf f310 (by decide) hW303
        show tt Zi 12 0 (696, [some (.inr (.inl 1000004)), some (.inr (.inl 0)), some (.inr (.inl 30)), some (.inr (.inl 47)), some (.inl i), some (.inl r306), o6], [.inl r309], n300, D301, s308, p303, c304) _
        have te100 : s308 100 = (s302 100) := f310 100 (by decide)
        have te101 : s308 101 = (s302 101) := f310 101 (by decide)
        have te102 : s308 102 = (s302 102) := f310 102 (by decide)
        have te103 : s308 103 = (s302 103) := f310 103 (by decide)
        have te3001 : s308 3001 = (s302 3001) := f310 3001 (by decide)
        have te3002 : s308 3002 = (s302 3002) := f310 3002 (by decide)
        have te3003 : s308 3003 = (s302 3003) := f310 3003 (by decide)
        have te3004 : s308 3004 = (s302 3004) := f310 3004 (by decide)
        have ht2 : tie s308 := ⟨te100.trans (tc100.trans (ht.1.trans (tc3001.symm.trans te3001.symm))), te101.trans (tc101.trans (ht.2.1.trans (tc3002.symm.trans te3002.symm))), te102.trans (tc102.trans (ht.2.2.1.trans (tc3003.symm.trans te3003.symm))), te103.trans (tc103.trans (ht.2.2.2.trans (tc3004.symm.trans te3004.symm)))⟩
        have FKr := fk_rf (c := c304) (K := []) FKc.1
        have tS2 : tiS s308 p303 c304 := tiS_fk (tiS_fk ⟨E, hcE, hrE⟩ FKc (by decide) tc100 tc101 tc102) FKr (by decide) te100 te101 te102
        have q1 : tqC c304 := tqC_f hQ.1 FKc FKr (by decide)
        have q2 : tqW s308 := tqW_f (tqW_f hQ.2.1 FFc (by decide)) f310 (by decide)
        have q3 : tqP s308 p303 c304 := tqP_f hQ.2.2.1 FKc FKr (by decide) FFc (by decide) f310 (by decide)
        have q4 : tqT s308 := tqT_f (tqT_f hQ.2.2.2 FFc (by decide)) f310 (by decide)
        have tQ2 : tiQ s308 p303 c304 := ⟨q1, q2, q3, q4⟩
        clear tc100 tc101 tc102 tc103 tc3001 tc3002 tc3003 tc3004 te100 te101 te102 te103 te3001 te3002 te3003 te3004
        refine tt_k 4 (S' := (23, [some (.inr (.inl 1000004)), some (.inr (.inl 0)), some (.inr (.inl 30)), some (.inr (.inl 47)), some (.inl (i + 9)), some (.inl r306), some (.inl r309)], [], n300, D301, s308, p303, c304)) rfl ?_
        exact ih (q + 1) (i + 9) (some (.inl r306)) (some (.inl r309)) (n300, D301, s308, p303, c304) ⟨hS308, hC304, (wp_rg hW312), FKr.1⟩ ht2 tS2 tQ2 (by omega) (by omega) (by omega) (by omega)
      by_cases h313 : (mi_and (xs (i).toNat) 15) = 14
      · have h314 := h313
        refine tt_tsw (x := (mi_and (xs (i).toNat) 15)) (off := 661) rfl (by omega) (by omega) (by rw [h313]; rfl) rfl ?_
        show tt Zi 12 0 (701, [some (.inr (.inl 1000004)), some (.inr (.inl 0)), some (.inr (.inl 30)), some (.inr (.inl 47)), some (.inl i), o5, o6], [], n, D, s, p, c) _
        refine tt_k 5 (S' := (707, [some (.inr (.inl 1000004)), some (.inr (.inl 0)), some (.inr (.inl 30)), some (.inr (.inl 47)), some (.inl i), o5, o6], [.inl (i + 1), .inr (.inl 1000004), .inr (.inl 0)], n, D, s, p, c)) rfl ?_
        refine tt_stat (j := 4) (i := (i + 1)) rfl hs (by omega) ?_
        show tt Zi 12 0 (708, [some (.inr (.inl 1000004)), some (.inr (.inl 0)), some (.inr (.inl 30)), some (.inr (.inl 47)), some (.inl i), o5, o6], [.inl ((xs ((i + 1)).toNat)), .inr (.inl 0)], n, D, s, p, c) _
        have b315 := hxs ((i + 1)).toNat
        refine tt_k 4 (S' := (713, [some (.inr (.inl 1000004)), some (.inr (.inl 0)), some (.inr (.inl 30)), some (.inr (.inl 47)), some (.inl i), o5, o6], [.inl (i + 2), .inr (.inl 1000004), .inl ((xs ((i + 1)).toNat)), .inr (.inl 0)], n, D, s, p, c)) rfl ?_
        refine tt_stat (j := 4) (i := (i + 2)) rfl hs (by omega) ?_
        show tt Zi 12 0 (714, [some (.inr (.inl 1000004)), some (.inr (.inl 0)), some (.inr (.inl 30)), some (.inr (.inl 47)), some (.inl i), o5, o6], [.inl ((xs ((i + 2)).toNat)), .inl ((xs ((i + 1)).toNat)), .inr (.inl 0)], n, D, s, p, c) _
        have b316 := hxs ((i + 2)).toNat
        refine tt_k 4 (S' := (719, [some (.inr (.inl 1000004)), some (.inr (.inl 0)), some (.inr (.inl 30)), some (.inr (.inl 47)), some (.inl i), o5, o6], [.inl (i + 3), .inr (.inl 1000004), .inl ((xs ((i + 2)).toNat)), .inl ((xs ((i + 1)).toNat)), .inr (.inl 0)], n, D, s, p, c)) rfl ?_
        refine tt_stat (j := 4) (i := (i + 3)) rfl hs (by omega) ?_
        show tt Zi 12 0 (720, [some (.inr (.inl 1000004)), some (.inr (.inl 0)), some (.inr (.inl 30)), some (.inr (.inl 47)), some (.inl i), o5, o6], [.inl ((xs ((i + 3)).toNat)), .inl ((xs ((i + 2)).toNat)), .inl ((xs ((i + 1)).toNat)), .inr (.inl 0)], n, D, s, p, c) _
        have b317 := hxs ((i + 3)).toNat
        refine tt_k 1 (S' := (721, [some (.inr (.inl 1000004)), some (.inr (.inl 0)), some (.inr (.inl 30)), some (.inr (.inl 47)), some (.inl i), o5, o6], [.inr (.inl 47), .inl ((xs ((i + 3)).toNat)), .inl ((xs ((i + 2)).toNat)), .inl ((xs ((i + 1)).toNat)), .inr (.inl 0)], n, D, s, p, c)) rfl ?_
        refine tt_cl (by omega) rfl (h_sample (Zi := Zi) (q := q) (n := n) (D := D) (s := s) (p := p) (c := c) (by omega) hz (by omega) hD hS hC (wp_rg hW) ((xs ((i + 1)).toNat)) ((xs ((i + 2)).toNat)) ((xs ((i + 3)).toNat)) (by omega) (by omega) (by omega)) ?_
        rintro _ ⟨n318, D319, s320, p321, c322⟩ ⟨r324, rfl, b325, hY323⟩
        have hS320 : bS s320 := hY323.1
        have hC322 : bC D319 c322 := hY323.2.1
        have hW321 : wp _ _ n318 D319 p321 s320 := hY323.2.2.1
        have FKc : fk p c n318 p321 c322 [47] := hY323.2.2.2.1
        have FFc : fr s s320 [800, 801, 802, 803, 804, 805, 806, 807, 808, 809, 902, 1705, 1706, 2001, 2002, 2003, 2004, 2005, 2006, 2106, 2107, 2108, 2109, 2110, 2111, 2112, 2113, 2114, 2115, 2116, 2500, 2501, 2502, 2503, 2700, 2701, 2702, 2703] := hY323.2.2.2.2
        show tt Zi 12 0 (724, [some (.inr (.inl 1000004)), some (.inr (.inl 0)), some (.inr (.inl 30)), some (.inr (.inl 47)), some (.inl i), o5, o6], [.inl r324], n318, D319, s320, p321, c322) _
        have tc100 : s320 100 = (s 100) := hW321.gz 100 rfl
        have tc101 : s320 101 = (s 101) := hW321.gz 101 rfl
        have tc102 : s320 102 = (s 102) := hW321.gz 102 rfl
        have tc103 : s320 103 = (s 103) := hW321.gz 103 rfl
        have tc3001 : s320 3001 = (s 3001) := hW321.gz 3001 rfl
        have tc3002 : s320 3002 = (s 3002) := hW321.gz 3002 rfl
        have tc3003 : s320 3003 = (s 3003) := hW321.gz 3003 rfl
        have tc3004 : s320 3004 = (s 3004) := hW321.gz 3004 rfl
        refine tt_k 6 (S' := (732, [some (.inr (.inl 1000004)), some (.inr (.inl 0)), some (.inr (.inl 30)), some (.inr (.inl 47)), some (.inl i), some (.inl r324), o6], [.inl (i + 1), .inr (.inl 1000004), .inr (.inl 30)], n318, D319, s320, p321, c322)) rfl ?_
        refine tt_stat (j := 4) (i := (i + 1)) rfl hs (by omega) ?_
        show tt Zi 12 0 (733, [some (.inr (.inl 1000004)), some (.inr (.inl 0)), some (.inr (.inl 30)), some (.inr (.inl 47)), some (.inl i), some (.inl r324), o6], [.inl ((xs ((i + 1)).toNat)), .inr (.inl 30)], n318, D319, s320, p321, c322) _
        refine tt_k 4 (S' := (738, [some (.inr (.inl 1000004)), some (.inr (.inl 0)), some (.inr (.inl 30)), some (.inr (.inl 47)), some (.inl i), some (.inl r324), o6], [.inl (i + 2), .inr (.inl 1000004), .inl ((xs ((i + 1)).toNat)), .inr (.inl 30)], n318, D319, s320, p321, c322)) rfl ?_
        refine tt_stat (j := 4) (i := (i + 2)) rfl hs (by omega) ?_
        show tt Zi 12 0 (739, [some (.inr (.inl 1000004)), some (.inr (.inl 0)), some (.inr (.inl 30)), some (.inr (.inl 47)), some (.inl i), some (.inl r324), o6], [.inl ((xs ((i + 2)).toNat)), .inl ((xs ((i + 1)).toNat)), .inr (.inl 30)], n318, D319, s320, p321, c322) _
        refine tt_k 4 (S' := (744, [some (.inr (.inl 1000004)), some (.inr (.inl 0)), some (.inr (.inl 30)), some (.inr (.inl 47)), some (.inl i), some (.inl r324), o6], [.inl (i + 3), .inr (.inl 1000004), .inl ((xs ((i + 2)).toNat)), .inl ((xs ((i + 1)).toNat)), .inr (.inl 30)], n318, D319, s320, p321, c322)) rfl ?_
        refine tt_stat (j := 4) (i := (i + 3)) rfl hs (by omega) ?_
        show tt Zi 12 0 (745, [some (.inr (.inl 1000004)), some (.inr (.inl 0)), some (.inr (.inl 30)), some (.inr (.inl 47)), some (.inl i), some (.inl r324), o6], [.inl ((xs ((i + 3)).toNat)), .inl ((xs ((i + 2)).toNat)), .inl ((xs ((i + 1)).toNat)), .inr (.inl 30)], n318, D319, s320, p321, c322) _
        refine tt_cl (by omega) rfl (k_sample (Zi := Zi) (D := D319) (s := s320) (p := p321) (c := c322) (by omega) hS320 hC322 ((xs ((i + 1)).toNat)) ((xs ((i + 2)).toNat)) ((xs ((i + 3)).toNat)) (by omega) (by omega) (by omega)) ?_
        rintro _ _ ⟨s326, r327, rfl, rfl, hS326, f328, b329⟩
        have hW330 := wp_rf f328 (by decide) hW321
        show tt Zi 12 0 (748, [some (.inr (.inl 1000004)), some (.inr (.inl 0)), some (.inr (.inl 30)), some (.inr (.inl 47)), some (.inl i), some (.inl r324), o6], [.inl r327], n318, D319, s326, p321, c322) _
        have te100 : s326 100 = (s320 100) := f328 100 (by decide)
        have te101 : s326 101 = (s320 101) := f328 101 (by decide)
        have te102 : s326 102 = (s320 102) := f328 102 (by decide)
        have te103 : s326 103 = (s320 103) := f328 103 (by decide)
        have te3001 : s326 3001 = (s320 3001) := f328 3001 (by decide)
        have te3002 : s326 3002 = (s320 3002) := f328 3002 (by decide)
        have te3003 : s326 3003 = (s320 3003) := f328 3003 (by decide)
        have te3004 : s326 3004 = (s320 3004) := f328 3004 (by decide)
        have ht2 : tie s326 := ⟨te100.trans (tc100.trans (ht.1.trans (tc3001.symm.trans te3001.symm))), te101.trans (tc101.trans (ht.2.1.trans (tc3002.symm.trans te3002.symm))), te102.trans (tc102.trans (ht.2.2.1.trans (tc3003.symm.trans te3003.symm))), te103.trans (tc103.trans (ht.2.2.2.trans (tc3004.symm.trans te3004.symm)))⟩
        have FKr := fk_rf (c := c322) (K := []) FKc.1
        have tS2 : tiS s326 p321 c322 := tiS_fk (tiS_fk ⟨E, hcE, hrE⟩ FKc (by decide) tc100 tc101 tc102) FKr (by decide) te100 te101 te102
        have q1 : tqC c322 := tqC_f hQ.1 FKc FKr (by decide)
        have q2 : tqW s326 := tqW_f (tqW_f hQ.2.1 FFc (by decide)) f328 (by decide)
        have q3 : tqP s326 p321 c322 := tqP_f hQ.2.2.1 FKc FKr (by decide) FFc (by decide) f328 (by decide)
        have q4 : tqT s326 := tqT_f (tqT_f hQ.2.2.2 FFc (by decide)) f328 (by decide)
        have tQ2 : tiQ s326 p321 c322 := ⟨q1, q2, q3, q4⟩
        clear tc100 tc101 tc102 tc103 tc3001 tc3002 tc3003 tc3004 te100 te101 te102 te103 te3001 te3002 te3003 te3004
        refine tt_k 4 (S' := (23, [some (.inr (.inl 1000004)), some (.inr (.inl 0)), some (.inr (.inl 30)), some (.inr (.inl 47)), some (.inl (i + 9)), some (.inl r324), some (.inl r327)], [], n318, D319, s326, p321, c322)) rfl ?_
        exact ih (q + 1) (i + 9) (some (.inl r324)) (some (.inl r327)) (n318, D319, s326, p321, c322) ⟨hS326, hC322, (wp_rg hW330), FKr.1⟩ ht2 tS2 tQ2 (by omega) (by omega) (by omega) (by omega)
      by_cases h331 : (mi_and (xs (i).toNat) 15) = 15
      · have h332 := h331
        refine tt_tsw (x := (mi_and (xs (i).toNat) 15)) (off := 713) rfl (by omega) (by omega) (by rw [h331]; rfl) rfl ?_
        show tt Zi 12 0 (753, [some (.inr (.inl 1000004)), some (.inr (.inl 0)), some (.inr (.inl 30)), some (.inr (.inl 47)), some (.inl i), o5, o6], [], n, D, s, p, c) _
        refine tt_k 5 (S' := (759, [some (.inr (.inl 1000004)), some (.inr (.inl 0)), some (.inr (.inl 30)), some (.inr (.inl 47)), some (.inl i), o5, o6], [.inl (i + 1), .inr (.inl 1000004), .inr (.inl 0)], n, D, s, p, c)) rfl ?_
        refine tt_stat (j := 4) (i := (i + 1)) rfl hs (by omega) ?_
        show tt Zi 12 0 (760, [some (.inr (.inl 1000004)), some (.inr (.inl 0)), some (.inr (.inl 30)), some (.inr (.inl 47)), some (.inl i), o5, o6], [.inl ((xs ((i + 1)).toNat)), .inr (.inl 0)], n, D, s, p, c) _
        have b333 := hxs ((i + 1)).toNat
        refine tt_k 4 (S' := (765, [some (.inr (.inl 1000004)), some (.inr (.inl 0)), some (.inr (.inl 30)), some (.inr (.inl 47)), some (.inl i), o5, o6], [.inl (i + 2), .inr (.inl 1000004), .inl ((xs ((i + 1)).toNat)), .inr (.inl 0)], n, D, s, p, c)) rfl ?_
        refine tt_stat (j := 4) (i := (i + 2)) rfl hs (by omega) ?_
        show tt Zi 12 0 (766, [some (.inr (.inl 1000004)), some (.inr (.inl 0)), some (.inr (.inl 30)), some (.inr (.inl 47)), some (.inl i), o5, o6], [.inl ((xs ((i + 2)).toNat)), .inl ((xs ((i + 1)).toNat)), .inr (.inl 0)], n, D, s, p, c) _
        have b334 := hxs ((i + 2)).toNat
        refine tt_k 1 (S' := (767, [some (.inr (.inl 1000004)), some (.inr (.inl 0)), some (.inr (.inl 30)), some (.inr (.inl 47)), some (.inl i), o5, o6], [.inr (.inl 47), .inl ((xs ((i + 2)).toNat)), .inl ((xs ((i + 1)).toNat)), .inr (.inl 0)], n, D, s, p, c)) rfl ?_
        refine tt_cl (by omega) rfl (h_learned (Zi := Zi) (q := q) (n := n) (D := D) (s := s) (p := p) (c := c) (by omega) hz (by omega) hD hS hC (wp_rg hW) ((xs ((i + 1)).toNat)) ((xs ((i + 2)).toNat)) (by omega) (by omega)) ?_
        rintro _ ⟨n335, D336, s337, p338, c339⟩ ⟨r341, rfl, b342, hY340⟩
        have hS337 : bS s337 := hY340.1
        have hC339 : bC D336 c339 := hY340.2.1
        have hW338 : wp _ _ n335 D336 p338 s337 := hY340.2.2.1
        have FKc : fk p c n335 p338 c339 [47] := hY340.2.2.2.1
        have FFc : fr s s337 [800, 801, 802, 803, 804, 805, 806, 807, 808, 809, 902, 1705, 1706, 2001, 2002, 2003, 2004, 2005, 2006, 2106, 2107, 2108, 2109, 2110, 2111, 2112, 2113, 2114, 2115, 2116, 2500, 2501, 2502, 2503, 2700, 2701, 2702, 2703] := hY340.2.2.2.2
        show tt Zi 12 0 (770, [some (.inr (.inl 1000004)), some (.inr (.inl 0)), some (.inr (.inl 30)), some (.inr (.inl 47)), some (.inl i), o5, o6], [.inl r341], n335, D336, s337, p338, c339) _
        have tc100 : s337 100 = (s 100) := hW338.gz 100 rfl
        have tc101 : s337 101 = (s 101) := hW338.gz 101 rfl
        have tc102 : s337 102 = (s 102) := hW338.gz 102 rfl
        have tc103 : s337 103 = (s 103) := hW338.gz 103 rfl
        have tc3001 : s337 3001 = (s 3001) := hW338.gz 3001 rfl
        have tc3002 : s337 3002 = (s 3002) := hW338.gz 3002 rfl
        have tc3003 : s337 3003 = (s 3003) := hW338.gz 3003 rfl
        have tc3004 : s337 3004 = (s 3004) := hW338.gz 3004 rfl
        refine tt_k 6 (S' := (778, [some (.inr (.inl 1000004)), some (.inr (.inl 0)), some (.inr (.inl 30)), some (.inr (.inl 47)), some (.inl i), some (.inl r341), o6], [.inl (i + 1), .inr (.inl 1000004), .inr (.inl 30)], n335, D336, s337, p338, c339)) rfl ?_
        refine tt_stat (j := 4) (i := (i + 1)) rfl hs (by omega) ?_
        show tt Zi 12 0 (779, [some (.inr (.inl 1000004)), some (.inr (.inl 0)), some (.inr (.inl 30)), some (.inr (.inl 47)), some (.inl i), some (.inl r341), o6], [.inl ((xs ((i + 1)).toNat)), .inr (.inl 30)], n335, D336, s337, p338, c339) _
        refine tt_k 4 (S' := (784, [some (.inr (.inl 1000004)), some (.inr (.inl 0)), some (.inr (.inl 30)), some (.inr (.inl 47)), some (.inl i), some (.inl r341), o6], [.inl (i + 2), .inr (.inl 1000004), .inl ((xs ((i + 1)).toNat)), .inr (.inl 30)], n335, D336, s337, p338, c339)) rfl ?_
        refine tt_stat (j := 4) (i := (i + 2)) rfl hs (by omega) ?_
        show tt Zi 12 0 (785, [some (.inr (.inl 1000004)), some (.inr (.inl 0)), some (.inr (.inl 30)), some (.inr (.inl 47)), some (.inl i), some (.inl r341), o6], [.inl ((xs ((i + 2)).toNat)), .inl ((xs ((i + 1)).toNat)), .inr (.inl 30)], n335, D336, s337, p338, c339) _
        refine tt_cl (by omega) rfl (k_learned (Zi := Zi) (D := D336) (s := s337) (p := p338) (c := c339) (by omega) hS337 hC339 ((xs ((i + 1)).toNat)) ((xs ((i + 2)).toNat)) (by omega) (by omega)) ?_
        rintro _ _ ⟨s343, r344, rfl, rfl, hS343, f345, b346⟩
        have hW347 := wp_rf f345 (by decide) hW338
        show tt Zi 12 0 (788, [some (.inr (.inl 1000004)), some (.inr (.inl 0)), some (.inr (.inl 30)), some (.inr (.inl 47)), some (.inl i), some (.inl r341), o6], [.inl r344], n335, D336, s343, p338, c339) _
        have te100 : s343 100 = (s337 100) := f345 100 (by decide)
        have te101 : s343 101 = (s337 101) := f345 101 (by decide)
        have te102 : s343 102 = (s337 102) := f345 102 (by decide)
        have te103 : s343 103 = (s337 103) := f345 103 (by decide)
        have te3001 : s343 3001 = (s337 3001) := f345 3001 (by decide)
        have te3002 : s343 3002 = (s337 3002) := f345 3002 (by decide)
        have te3003 : s343 3003 = (s337 3003) := f345 3003 (by decide)
        have te3004 : s343 3004 = (s337 3004) := f345 3004 (by decide)
        have ht2 : tie s343 := ⟨te100.trans (tc100.trans (ht.1.trans (tc3001.symm.trans te3001.symm))), te101.trans (tc101.trans (ht.2.1.trans (tc3002.symm.trans te3002.symm))), te102.trans (tc102.trans (ht.2.2.1.trans (tc3003.symm.trans te3003.symm))), te103.trans (tc103.trans (ht.2.2.2.trans (tc3004.symm.trans te3004.symm)))⟩
        have FKr := fk_rf (c := c339) (K := []) FKc.1
        have tS2 : tiS s343 p338 c339 := tiS_fk (tiS_fk ⟨E, hcE, hrE⟩ FKc (by decide) tc100 tc101 tc102) FKr (by decide) te100 te101 te102
        have q1 : tqC c339 := tqC_f hQ.1 FKc FKr (by decide)
        have q2 : tqW s343 := tqW_f (tqW_f hQ.2.1 FFc (by decide)) f345 (by decide)
        have q3 : tqP s343 p338 c339 := tqP_f hQ.2.2.1 FKc FKr (by decide) FFc (by decide) f345 (by decide)
        have q4 : tqT s343 := tqT_f (tqT_f hQ.2.2.2 FFc (by decide)) f345 (by decide)
        have tQ2 : tiQ s343 p338 c339 := ⟨q1, q2, q3, q4⟩
        clear tc100 tc101 tc102 tc103 tc3001 tc3002 tc3003 tc3004 te100 te101 te102 te103 te3001 te3002 te3003 te3004
        refine tt_k 4 (S' := (23, [some (.inr (.inl 1000004)), some (.inr (.inl 0)), some (.inr (.inl 30)), some (.inr (.inl 47)), some (.inl (i + 9)), some (.inl r341), some (.inl r344)], [], n335, D336, s343, p338, c339)) rfl ?_
        exact ih (q + 1) (i + 9) (some (.inl r341)) (some (.inl r344)) (n335, D336, s343, p338, c339) ⟨hS343, hC339, (wp_rg hW347), FKr.1⟩ ht2 tS2 tQ2 (by omega) (by omega) (by omega) (by omega)
      refine tt_tsd (x := (mi_and (xs (i).toNat) 15)) rfl (by omega) (by omega) rfl ?_
      show tt Zi 12 0 (793, [some (.inr (.inl 1000004)), some (.inr (.inl 0)), some (.inr (.inl 30)), some (.inr (.inl 47)), some (.inl i), o5, o6], [], n, D, s, p, c) _
      refine tt_k 2 (S' := (23, [some (.inr (.inl 1000004)), some (.inr (.inl 0)), some (.inr (.inl 30)), some (.inr (.inl 47)), some (.inl (i + 9)), o5, o6], [], n, D, s, p, c)) rfl ?_
      exact ih q (i + 9) (o5) (o6) (n, D, s, p, c) ⟨hS, hC, (wp_rg hW), hD⟩ ht ⟨E, hcE, hrE⟩ hQ (by omega) (by omega) (by omega) (by omega)
